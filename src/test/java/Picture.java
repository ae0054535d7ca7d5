import java.lang.reflect.Field;
import java.lang.reflect.Modifier;
import java.util.ArrayDeque;
import java.util.IdentityHashMap;
import java.util.Map;

/** All that an object holds but its STATUS, as one number; and how much room it takes. */
final class Picture {
  private final Map<Object, Integer> met = new IdentityHashMap<>();
  private final ArrayDeque<Object> open = new ArrayDeque<>();
  private long sum = 17;
  private long elements = 0;

  static long of(UnitMill x) {
    return whole(x).sum;
  }

  /** How many objects and arrays, and how many fields and elements. */
  static long[] room(UnitMill x) {
    Picture all = whole(x);
    return new long[] {all.met.size(), all.elements};
  }

  private static Picture whole(UnitMill x) {
    Picture all = new Picture();
    all.meet(x);
    try {
      while (!all.open.isEmpty()) {
        all.takeIn(all.open.remove());
      }
    } catch (IllegalAccessException e) {
      throw new IllegalStateException(e);
    }
    return all;
  }

  private void takeIn(Object one) throws IllegalAccessException {
    if (one instanceof int[] numbers) {
      elements += numbers.length;
      for (int number : numbers) {
        add(number);
      }
    } else if (one instanceof byte[] bytes) {
      elements += bytes.length;
      for (byte b : bytes) {
        add(b);
      }
    } else if (one instanceof boolean[] flags) {
      elements += flags.length;
      for (boolean flag : flags) {
        add(flag ? 1 : 0);
      }
    } else if (one instanceof Object[] others) {
      elements += others.length;
      for (Object other : others) {
        meet(other);
      }
    } else {
      fields(one);
    }
  }

  private void fields(Object one) throws IllegalAccessException {
    for (Field field : one.getClass().getDeclaredFields()) {
      if (Modifier.isStatic(field.getModifiers())) {
        continue;
      }
      elements++;
      field.setAccessible(true);
      Object held = field.get(one);
      if (!field.getType().isPrimitive()) {
        meet(held);
      } else if (one.getClass() != UnitMill.class || !field.getName().equals("status")) {
        add(held.hashCode());
      }
    }
  }

  private void add(int number) {
    sum = sum * 1000003 + number;
  }

  /** Which object it is counts, too: by the order in which they were met. */
  private void meet(Object other) {
    if (other == null) {
      add(-1);
      return;
    }
    Integer number = met.get(other);
    if (number == null) {
      number = met.size();
      met.put(other, number);
      open.add(other);
    }
    add(number);
  }
}
