import java.nio.charset.StandardCharsets;
import java.util.function.LongSupplier;

/** A UnitMill under test: it feeds texts as bytes, counts what is not as due and says where. */
final class Mill {
  private static int wrong = 0;
  private static int asked = 0;
  UnitMill x = new UnitMill();
  private final String title;

  Mill(String title) {
    this.title = title;
  }

  static void end() {
    System.out.println(wrong == 0 ? asked + " answers are as due" : wrong + " answers are not as due");
    if (wrong != 0) {
      System.exit(1);
    }
  }

  void due(String call, long got, long want) {
    asked++;
    if (got != want) {
      wrong++;
      System.out.println(title + ": " + call + " answered " + got + ", due is " + want);
    }
  }

  void dueText(String call, String got, String want) {
    asked++;
    if (!got.equals(want)) {
      wrong++;
      System.out.println(title + ": " + call + " answered <" + got + ">, due is <" + want + ">");
    }
  }

  /** A call that is refused: it answers -1, and this is its STATUS. */
  void refused(String call, long got, int status) {
    due(call, got, -1);
    due("status() behind " + call, x.status(), status);
  }

  /** The same, and nothing but STATUS is another one behind it. */
  void denied(String call, LongSupplier made, int status) {
    long before = Picture.of(x);
    refused(call, made.getAsLong(), status);
    due("nothing else has changed behind " + call, Picture.of(x), before);
  }

  /** A call that is not refused. */
  void taken(String call, long got, long want) {
    due(call, got, want);
    due("status() behind " + call, x.status(), 0);
  }

  void feed(String text) {
    byte[] bytes = text.getBytes(StandardCharsets.ISO_8859_1);
    for (int at = 0; at < bytes.length; at += 40) {
      long[] five = new long[5];
      for (int i = 0; i < 40; i++) {
        int b = at + i < bytes.length ? bytes[at + i] & 255 : 32;
        five[i / 8] = (five[i / 8] << 8) | b;
      }
      x.feed(five[0], five[1], five[2], five[3], five[4]);
    }
  }

  int compile(String text) {
    feed(text);
    return x.compile(text.length());
  }

  void right(String text) {
    due("compile " + text, compile(text), 0);
    due("the place in " + text, x.wrong(1), 0);
  }

  /** WRONG at the place of the sign ^ in the text, which is not part of it; at the end, if there is none. */
  void wrong(int what, String marked) {
    int at = marked.indexOf('^');
    String text = at < 0 ? marked : marked.substring(0, at) + marked.substring(at + 1);
    due("compile " + marked, compile(text), what);
    due("what was WRONG in " + marked, x.wrong(0), what);
    due("the place in " + marked, x.wrong(1), at < 0 ? text.length() : at);
    due("the unit of " + marked, x.wrong(2), -1);
  }

  /** Compiles a MODULE, links and starts it. */
  void begin(String text) {
    right(text);
    int k = x.wrong(2);
    int units = x.link(k);
    due("link of " + text, units > 0 ? 1 : units, 1);
    x.start();
  }

  String out() {
    StringBuilder all = new StringBuilder();
    for (int i = 0; x.out(i) >= 0; i++) {
      all.append((char) x.out(i));
    }
    return all.toString();
  }

  /** Runs a MODULE to its end: what run() answers, and OUT. */
  void ends(String text, int answer, String written) {
    begin(text);
    due("run of " + text, x.run(20000), answer);
    dueText("OUT of " + text, out(), written);
  }

  /** The same in a MODULE with some variables. */
  void does(String statements, int answer, String written) {
    ends(in(statements), answer, written);
  }

  static String in(String statements) {
    return "MODULE M; CONST k = 7; yes = TRUE; VAR i, j: INTEGER; c: CHAR; b: BOOLEAN; p, q: PROCESS; "
        + "a: ARRAY 5 OF INTEGER; s: ARRAY 3 OF CHAR; BEGIN " + statements + " END M.";
  }

  /** A new object for this text alone. */
  static void isRight(String title, String text) {
    new Mill(title).right(text);
  }

  /** A new object for this text alone, with the sign ^ as in wrong(). */
  static void isWrong(String title, int what, String marked) {
    new Mill(title).wrong(what, marked);
  }

  static String times(int count, String what) {
    StringBuilder all = new StringBuilder();
    for (int i = 0; i < count; i++) {
      all.append(what);
    }
    return all.toString();
  }

  /** NAMES with a number behind each: x1, x2 and so on. */
  static String list(String name, int from, int to) {
    StringBuilder all = new StringBuilder();
    for (int i = from; i <= to; i++) {
      all.append(i > from ? ", " : "").append(name).append(i);
    }
    return all.toString();
  }

  /** A new object with a MODULE of these statements. */
  static void does(String title, String statements, int answer, String written) {
    new Mill(title).does(statements, answer, written);
  }
}
