import java.util.Random;

/** Any calls in any state: none throws or goes on for ever, and the same calls have the same answers. */
final class RandomTest {
  private static final String[] WORDS = ("DEFINITION IMPLEMENTATION MODULE FROM IMPORT CONST VAR PROCEDURE BEGIN END ARRAY OF IF THEN "
      + "ELSIF ELSE WHILE DO REPEAT UNTIL LOOP EXIT FOR TO BY RETURN INTEGER CHAR BOOLEAN PROCESS TRUE FALSE DIV MOD AND OR NOT "
      + "+ - * = # < > <= >= := ( ) [ ] , ; : . a b x y M D ORD CHR ABS ODD LENGTH INC DEC HALT WRITEINT WRITECHAR WRITESTRING "
      + "WRITELN READINT NEWPROCESS TRANSFER IOTRANSFER OPENFILE NEWFILE READBYTE WRITEBYTE SETPOS CLOSEFILE DELETEFILE 0 1 7 500 "
      + "32767 \"a\" \"ab\" \"\" (* *) @ \"").split(" ");
  private static final String[] TEXTS = {
    "DEFINITION MODULE D ; CONST c = 5 ; VAR x : INTEGER ; PROCEDURE p ( VAR a : INTEGER ; b : CHAR ) : BOOLEAN ; END D .",
    "IMPLEMENTATION MODULE D ; VAR y : ARRAY c OF CHAR ; PROCEDURE p ( VAR a : INTEGER ; b : CHAR ) : BOOLEAN ; VAR i : INTEGER ; "
        + "BEGIN FOR i := 0 TO c - 1 DO y [ i ] := b END ; INC ( a ) ; RETURN a < 9 END p ; BEGIN x := 1 END D .",
    "MODULE M ; FROM D IMPORT p , x , c ; VAR q , m : PROCESS ; n : INTEGER ; f : ARRAY 4 OF INTEGER ; PROCEDURE e ; VAR i : INTEGER ; "
        + "BEGIN LOOP IOTRANSFER ( q , m ) ; INC ( i ) ; WRITEINT ( i ) END END e ; BEGIN NEWPROCESS ( e , 40 , q ) ; TRANSFER ( m , q ) ; "
        + "NEWFILE ( \"ab\" , n ) ; WHILE p ( x , \"z\" ) DO WRITEBYTE ( n , x * 3 ) ; f [ x MOD 4 ] := LENGTH ( n ) END ; SETPOS ( n , 0 ) ; "
        + "REPEAT READBYTE ( n , x ) ; IF ODD ( x ) THEN WRITECHAR ( CHR ( x ) ) ELSIF x = c THEN HALT ELSE WRITESTRING ( \"ev\" ) END "
        + "UNTIL x < 0 END M ."
  };

  public static void main(String[] args) {
    for (int seed = 1; seed <= 400; seed++) {
      long first = session(seed);
      new Mill("seed " + seed).due("the same calls once more", session(seed), first);
    }
    Mill.end();
  }

  private static String mutated(Random random, String text) {
    String[] words = text.split(" ");
    int changes = random.nextInt(3);
    for (int i = 0; i < changes; i++) {
      words[random.nextInt(words.length)] = WORDS[random.nextInt(WORDS.length)];
    }
    return String.join(random.nextInt(4) == 0 ? "\n" : " ", words);
  }

  private static String anyText(Random random) {
    StringBuilder text = new StringBuilder();
    int size = random.nextInt(200);
    for (int i = 0; i < size; i++) {
      if (random.nextInt(8) == 0) {
        text.append((char) random.nextInt(256));
      } else {
        text.append(WORDS[random.nextInt(WORDS.length)]).append(' ');
      }
    }
    return text.toString();
  }

  private static int anyNumber(Random random) {
    int[] some = {0, 1, 2, 3, 5, 7, -1, 40, 100, 1000, 20000, 20001, 32767, -32768, Integer.MAX_VALUE, Integer.MIN_VALUE};
    return some[random.nextInt(some.length)];
  }

  /** More calls than are promised, for those behind may answer what they like but may not throw. */
  private static long session(int seed) {
    Random random = new Random(seed);
    Mill m = new Mill("seed " + seed);
    long sum = 0;
    for (int call = 0; call < 1500; call++) {
      sum = sum * 31 + one(random, m);
      sum = sum * 31 + m.x.status();
    }
    return sum;
  }

  private static long one(Random random, Mill m) {
    int a = anyNumber(random);
    int b = anyNumber(random);
    switch (random.nextInt(22)) {
      case 0:
        return m.compile(mutated(random, TEXTS[0]));
      case 1:
        return m.compile(mutated(random, TEXTS[1]));
      case 2:
      case 3:
        return m.compile(mutated(random, TEXTS[2]));
      case 4:
        return m.compile(anyText(random));
      case 5:
        return m.x.feed(random.nextLong(), a, b, -1, 0);
      case 6:
        return m.x.compile(a);
      case 7:
        return m.x.wrong(a);
      case 8:
        return m.x.unit(a, b);
      case 9:
        return m.x.link(random.nextInt(4));
      case 10:
        return m.x.linked(a);
      case 11:
        return m.x.start();
      case 12:
        return m.x.run(random.nextInt(300));
      case 13:
        return m.x.run(a);
      case 14:
        return m.x.clock(a);
      case 15:
        return m.x.give(a);
      case 16:
        return m.x.seen(a) + m.x.out(b);
      case 17:
        return m.x.word(a, b);
      case 18:
        return m.x.file(a, b) + m.x.read(a, b);
      case 19:
        return m.x.name(a, b);
      case 20:
        return m.x.sector(a);
      default:
        return random.nextInt(5) == 0 ? m.x.fresh() : m.x.seen(random.nextInt(9));
    }
  }
}
