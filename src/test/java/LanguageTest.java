import java.io.IOException;
import java.lang.reflect.Constructor;
import java.lang.reflect.Executable;
import java.lang.reflect.Field;
import java.lang.reflect.Method;
import java.lang.reflect.Modifier;
import java.nio.file.Files;
import java.nio.file.Path;
import java.util.ArrayList;
import java.util.List;
import java.util.Set;
import java.util.TreeSet;
import java.util.regex.Matcher;
import java.util.regex.Pattern;

/** LANGUAGE.md, rule by rule, as far as the class's own text and its members tell it; RoomTest has rule 12. */
final class LanguageTest {
  private static final String[] FACE = {"feed(long,long,long,long,long):int", "compile(int):int", "wrong(int):int",
      "unit(int,int):int", "link(int):int", "linked(int):int", "start():int", "run(int):int", "clock(int):int",
      "give(int):int", "seen(int):int", "out(int):int", "word(int,int):int", "file(int,int):int", "read(int,int):int",
      "name(int,int):int", "sector(int):long", "fresh():int", "status():int"};
  private static final Set<String> NUMBERS =
      Set.of("int", "long", "short", "byte", "char", "boolean", "int[]", "long[]", "byte[]", "boolean[]", "String");
  private static final Set<String> CONSTANTS = Set.of("int", "long", "boolean", "char", "String", "int[]", "long[]", "byte[]");
  private static final Set<String> LIBRARY = Set.of("Arrays.fill", "Arrays.copyOf", "Arrays.copyOfRange", "System.arraycopy",
      "Math.min", "Math.max", "Math.abs", "Math.floorDiv", "Math.floorMod");
  private static final String[] NOT_THERE = {"throw", "throws", "try", "catch", "finally", "synchronized", "assert", "package",
      "protected", "volatile", "native", "transient", "strictfp", "Object", "Thread", "Random", "File", "hashCode", "toString",
      "getClass", "double", "float", "ArrayList", "List", "StringBuilder", "Integer", "Long"};
  private static final String[] SIGNS_NOT_THERE = {"->", "::", "@", "\" +", "+ \"", "static {"};

  private static final Mill m = new Mill("LANGUAGE.md");
  private static final List<Class<?>> classes = new ArrayList<>();
  private static String code;

  public static void main(String[] args) throws IOException {
    String text = Files.readString(Path.of("src/main/java/UnitMill.java"));
    code = text.replaceAll("(?s)/\\*.*?\\*/", "").replaceAll("//[^\n]*", "").replaceAll("\"[^\"\n]*\"", "\"\"");
    classes.add(UnitMill.class);
    classes.addAll(List.of(UnitMill.class.getDeclaredClasses()));
    face();
    classesInside();
    types();
    library();
    staticFields();
    wordsAndSigns();
    sizes();
    Mill.end();
  }

  private static void holds(String what, boolean holds) {
    m.due(what, holds ? 1 : 0, 1);
  }

  /** Rule 1. */
  private static void face() {
    int modifiers = UnitMill.class.getModifiers();
    holds("the class is public and final", Modifier.isPublic(modifiers) && Modifier.isFinal(modifiers));
    Set<String> told = new TreeSet<>();
    Set<String> names = new TreeSet<>();
    for (Method method : UnitMill.class.getDeclaredMethods()) {
      if (Modifier.isPublic(method.getModifiers())) {
        told.add(shape(method));
        names.add(method.getName());
      } else {
        holds(method.getName() + " is private", Modifier.isPrivate(method.getModifiers()));
      }
    }
    m.dueText("the face", told.toString(), new TreeSet<>(List.of(FACE)).toString());
    for (Field field : UnitMill.class.getDeclaredFields()) {
      holds(field.getName() + " is private", Modifier.isPrivate(field.getModifiers()));
    }
    Constructor<?>[] constructors = UnitMill.class.getDeclaredConstructors();
    holds("one constructor, that of the face", constructors.length == 1 && constructors[0].getParameterCount() == 0
        && Modifier.isPublic(constructors[0].getModifiers()));
    for (Class<?> each : classes) {
      for (Method method : each.getDeclaredMethods()) {
        boolean free = each == UnitMill.class && Modifier.isPublic(method.getModifiers());
        holds(each + " " + method.getName() + " has another name than the face's", free || !names.contains(method.getName()));
      }
    }
  }

  private static String shape(Method method) {
    StringBuilder all = new StringBuilder(method.getName()).append('(');
    for (Class<?> type : method.getParameterTypes()) {
      all.append(all.charAt(all.length() - 1) == '(' ? "" : ",").append(type.getSimpleName());
    }
    return all.append("):").append(method.getReturnType().getSimpleName()).toString();
  }

  /** Rule 2. */
  private static void classesInside() {
    for (Class<?> each : UnitMill.class.getDeclaredClasses()) {
      int modifiers = each.getModifiers();
      holds(each + " is static", Modifier.isStatic(modifiers));
      holds(each + " is not public or protected", !Modifier.isPublic(modifiers) && !Modifier.isProtected(modifiers));
      holds(each + " has no classes inside", each.getDeclaredClasses().length == 0);
      for (Method method : each.getDeclaredMethods()) {
        holds(each + " " + method.getName() + " is not public", !Modifier.isPublic(method.getModifiers()));
      }
    }
    holds("no class is local or without a name", count("\\bclass\\b") == classes.size());
  }

  /** Rule 3. */
  private static void types() {
    for (Class<?> each : classes) {
      for (Field field : each.getDeclaredFields()) {
        Class<?> type = field.getType();
        Class<?> plain = type.isArray() ? type.getComponentType() : type;
        holds(each + " " + field.getName() + " has a TYPE that is allowed",
            NUMBERS.contains(type.getSimpleName()) || classes.contains(plain));
      }
    }
  }

  /** Rule 4. */
  private static void library() {
    Matcher called = Pattern.compile("\\b(Arrays|System|Math|Integer|Long|Character|String)\\.\\w+").matcher(code);
    while (called.find()) {
      holds(called.group() + " is allowed", LIBRARY.contains(called.group()));
    }
    holds("one import", count("(?m)^import ") == 1 && code.contains("import java.util.Arrays;"));
  }

  /** Rule 5. */
  private static void staticFields() {
    for (Class<?> each : classes) {
      for (Field field : each.getDeclaredFields()) {
        boolean isStatic = Modifier.isStatic(field.getModifiers());
        holds(each + " " + field.getName() + " is final", !isStatic || Modifier.isFinal(field.getModifiers()));
        holds(each + " " + field.getName() + " is a constant", !isStatic || CONSTANTS.contains(field.getType().getSimpleName()));
      }
    }
  }

  /** Rules 2, 6, 10, 13. */
  private static void wordsAndSigns() {
    for (String word : NOT_THERE) {
      m.due("how often '" + word + "' stands there", count("\\b" + word + "\\b"), 0);
    }
    for (String sign : SIGNS_NOT_THERE) {
      holds("'" + sign + "' stands nowhere", !code.contains(sign));
    }
    holds("no name ends in Exact", count("Exact\\b") == 0);
  }

  /** Rule 11. */
  private static void sizes() {
    holds("at most twelve classes", classes.size() <= 12);
    for (Class<?> each : classes) {
      int fields = 0;
      for (Field field : each.getDeclaredFields()) {
        fields += Modifier.isStatic(field.getModifiers()) ? 0 : 1;
      }
      holds(each + " has at most twenty fields", fields <= 20);
      List<Executable> all = new ArrayList<>(List.of(each.getDeclaredMethods()));
      all.addAll(List.of(each.getDeclaredConstructors()));
      for (Executable one : all) {
        holds(one + " takes at most seven parameters", one.getParameterCount() <= 7);
      }
    }
    int begins = 0;
    String[] lines = code.split("\n");
    for (int i = 0; i < lines.length; i++) {
      boolean isMember = lines[i].matches(" {2}( {2})?(?!if|for|while|switch|\\})\\S.*\\) \\{");
      begins = isMember ? i : begins;
      holds(lines[begins].trim() + " has at most sixty lines", i - begins <= 60 || !lines[i].matches(" {2}( {2})?\\}"));
    }
  }

  private static int count(String pattern) {
    int found = 0;
    Matcher matcher = Pattern.compile(pattern).matcher(code);
    while (matcher.find()) {
      found++;
    }
    return found;
  }
}
