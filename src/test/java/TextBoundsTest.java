/** 'Terms', from the TAPE to the words of a text: each sentence that names a boundary, on both sides of it. */
final class TextBoundsTest {
  private static final String BYTES_OF_NO_WORD = "!$%&'/?@\\_`{|}~";

  public static void main(String[] args) {
    tape();
    tapeBehindCompile();
    highestFirst();
    blanks();
    remarks();
    remarksAtTheEnd();
    namesBegin();
    namesGoOn();
    namesOfTwenty();
    numbers();
    bytesOfStrings();
    lengthsOfStrings();
    stringsThatAreNotClosed();
    signs();
    capitals();
    Mill.end();
  }

  private static boolean isLetter(int b) {
    return b >= 'A' && b <= 'Z' || b >= 'a' && b <= 'z';
  }

  private static boolean isDigit(int b) {
    return b >= '0' && b <= '9';
  }

  private static boolean isBlank(int b) {
    return b == 32 || b == 10;
  }

  /** A new object: what is WRONG, and its place. */
  private static void text(String title, String text, int what, int place) {
    Mill m = new Mill(title);
    m.due("compile " + text, m.compile(text), what);
    m.due("the place in " + text, m.x.wrong(1), place);
  }

  private static Mill withFullTape() {
    Mill m = new Mill("the TAPE has at most 4000 bytes");
    m.feed("MODULE A;" + Mill.times(3985, " ") + "END A.");
    return m;
  }

  private static void tape() {
    Mill m = new Mill("the TAPE has at most 4000 bytes");
    for (int i = 1; i <= 100; i++) {
      m.taken("feed " + i, m.x.feed(0x2020202020202020L, -1, 0, 1, Long.MIN_VALUE), 40 * i);
    }
    m.denied("feed 101", () -> m.x.feed(0x2020202020202020L, -1, 0, 1, Long.MIN_VALUE), 3);
    m.denied("feed 102", () -> m.x.feed(1, 2, 3, 4, 5), 3);
    m.denied("compile(4001)", () -> m.x.compile(4001), 1);
    m.denied("compile(-1)", () -> m.x.compile(-1), 1);
    m.denied("compile(the most)", () -> m.x.compile(Integer.MAX_VALUE), 1);
    m.denied("compile(the least)", () -> m.x.compile(Integer.MIN_VALUE), 1);

    Mill full = withFullTape();
    full.denied("feed 101", () -> full.x.feed(0x7878787878787878L, 0x7878787878787878L, 0, 0, 0), 3);
    full.taken("compile(4000): what was refused is not there", full.x.compile(4000), 0);
    Mill less = withFullTape();
    less.taken("compile(3999)", less.x.compile(3999), 1);
    less.taken("its place", less.x.wrong(1), 3999);
    Mill words = new Mill("4000 words");
    words.feed(Mill.times(4000, ";"));
    words.taken("compile(4000)", words.x.compile(4000), 1);
    words.taken("its place", words.x.wrong(1), 0);
    Mill many = new Mill("as many words as go");
    many.feed("MODULE A;BEGIN" + Mill.times(3980, ";") + "END A.");
    many.taken("compile(4000)", many.x.compile(4000), 0);
  }

  private static void tapeBehindCompile() {
    Mill m = new Mill("the TAPE is empty then");
    m.feed("MODULE A; END A.");
    m.denied("compile(41)", () -> m.x.compile(41), 1);
    m.taken("compile(16)", m.x.compile(16), 0);
    m.denied("compile(1) of an empty TAPE", () -> m.x.compile(1), 1);
    m.taken("feed", m.x.feed(0, 0, 0, 0, 0), 40);
    m.taken("compile(40) of what is WRONG", m.x.compile(40), 1);
    m.denied("compile(1): it is empty, too", () -> m.x.compile(1), 1);
    m.feed("MODULE A; END A.");
    m.taken("compile(0): no words", m.x.compile(0), 1);
    m.taken("n, if words lack", m.x.wrong(1), 0);
    m.denied("compile(1): compile(0) took all of it", () -> m.x.compile(1), 1);
    m.taken("compile(0) of an empty TAPE", m.x.compile(0), 1);
    m.feed("MODULE A; END A.@@@@");
    m.taken("only the first n bytes are a unit", m.x.compile(16), 0);
    m.feed("MODULE B; END B.");
    m.taken("nothing of the others is there", m.x.compile(16), 0);
  }

  private static void highestFirst() {
    Mill m = new Mill("the highest of each number first");
    // "MODULE A" ";(*" and bytes of 128 and more, "*) END A" "." in the last number
    m.taken("feed", m.x.feed(0x4D4F44554C452041L, 0x3B282AFFFEFDFCFBL, 0x8081FFFFFFFFFF80L, 0x2A2920454E442041L,
        0x2E20202020202020L), 40);
    m.taken("compile(33)", m.x.compile(33), 0);
    m.taken("feed", m.x.feed(-1L, 0, 0, 0, 0), 40);
    m.taken("compile(40)", m.x.compile(40), 1);
    m.taken("its place", m.x.wrong(1), 0);
  }

  /** Blanks (32) and bytes 10 stand between words; no other byte does. */
  private static void blanks() {
    for (int b = 0; b < 256; b++) {
      String text = "MODULE A;" + (char) b + "END A.";
      text("byte " + b + " between words", text, isBlank(b) ? 0 : 1, isBlank(b) ? 0 : 9);
    }
    text("many of them", " \n\n MODULE \n A \n;\n END\n\nA\n.\n ", 0, 0);
    text("blanks alone", " \n ", 1, 3);
  }

  private static void remarks() {
    for (int b = 0; b < 256; b++) {
      text("byte " + b + " in a remark", "MODULE A; (* " + (char) b + " *)END A.", 0, 0);
    }
    String open = Mill.times(900, "(*");
    String close = Mill.times(900, "*)");
    text("one within the other", "MODULE A;" + open + close + "END A.", 0, 0);
    text("one less is closed", "MODULE A;" + open + close.substring(2) + "END A.", 1, 3613);
    text("one more is closed", "MODULE A;" + open + close + "*)END A.", 1, 3609);
    text("one behind the other", "MODULE(**)A(* *)(* (**) *);END(*)*)A.", 0, 0);
    text("( * is none", "MODULE A; ( * * )END A.", 1, 10);
    text("(*) is open still", "MODULE A;(*)END A.", 1, 18);
    text("between words alone", "MOD(**)ULE A; END A.", 1, 0);
    text("not in a sign", "MODULE A; VAR i: INTEGER; BEGIN i :(**)= 1 END A.", 4, 32);
    text("not in a NUMBER", "MODULE A; CONST c = 1(**)2; END A.", 1, 25);
  }

  private static void remarksAtTheEnd() {
    text("one that is not closed goes to the end", "MODULE A; END A.(* MODULE", 0, 0);
    text("words lack behind it", "MODULE A; END A (* .", 1, 20);
    text("of two one is not closed", "MODULE A; END A.(* (* *) .", 0, 0);
    Mill m = new Mill("cut in the midst of its signs");
    m.feed("MODULE A; END A.(* *)");
    m.taken("compile(17)", m.x.compile(17), 1);
    m.taken("its place", m.x.wrong(1), 16);
    m.feed("MODULE A; END A.(* *)");
    m.taken("compile(18)", m.x.compile(18), 0);
    m.feed("MODULE A; END A.(* *)@");
    m.taken("compile(20)", m.x.compile(20), 0);
    m.feed("MODULE A; END A.(* *)@");
    m.taken("compile(22)", m.x.compile(22), 1);
    m.taken("its place", m.x.wrong(1), 21);
  }

  private static void namesBegin() {
    for (int b = 0; b < 256; b++) {
      String text = "MODULE " + (char) b + "; END " + (char) b + ".";
      boolean name = isLetter(b);
      text("a NAME begins with byte " + b, text, name ? 0 : 1, name ? 0 : isBlank(b) ? 8 : 7);
    }
  }

  private static void namesGoOn() {
    for (int b = 0; b < 256; b++) {
      String text = "MODULE A" + (char) b + "; END A" + (char) b + ".";
      boolean right = isLetter(b) || isDigit(b) || isBlank(b);
      // What is a word itself can't stand between the NAME and the ; but the ; itself can.
      text("byte " + b + " in a NAME", text, right ? 0 : 1, right ? 0 : b == ';' ? 9 : 8);
    }
  }

  private static void namesOfTwenty() {
    String twenty = "Abcdefghij0123456789";
    String[] texts = {
      "MODULE %; END %.", "MODULE A; CONST % = 1; END A.", "MODULE A; VAR %: CHAR; END A.", "MODULE A; VAR x, %: CHAR; END A.",
      "MODULE A; PROCEDURE %; END %; END A.", "MODULE A; PROCEDURE p(%: CHAR); END p; END A.",
      "MODULE A; PROCEDURE p; VAR %: CHAR; END p; END A.", "DEFINITION MODULE %; END %.",
    };
    for (String text : texts) {
      text("20 letters and digits", text.replace("%", twenty), 0, 0);
      text("a NAME of 21 is none", text.replace("%", twenty + "0"), 1, text.indexOf('%'));
    }
    text("19", texts[0].replace("%", twenty.substring(1)), 0, 0);
    text("one letter", texts[0].replace("%", "z"), 0, 0);
    text("far too long", texts[0].replace("%", Mill.times(40, "END")), 1, 7);
    text("the 20th tells them apart", "MODULE A; VAR a234567890123456789a, a234567890123456789b: CHAR; END A.", 0, 0);
    text("all 20 are the same", "MODULE A; VAR a234567890123456789a, a234567890123456789a: CHAR; END A.", 3, 36);
  }

  private static void numbers() {
    String[] right = {"0", "1", "9", "10", "99", "100", "500", "9999", "10000", "32766", "32767"};
    for (String number : right) {
      text("a NUMBER", "MODULE A; CONST c = " + number + "; END A.", 0, 0);
    }
    String[] none = {"32768", "32769", "40000", "65535", "65536", "99999", "100000", "2147483647", "2147483648", "4294967296",
        "4294967297", "18446744073709551616", "00", "01", "000", "09", "032767", "0000000000000000000000000000000001"};
    for (String number : none) {
      text("a NUMBER that is none", "MODULE A; CONST c = " + number + "; END A.", 1, 20);
    }
    Mill m = new Mill("what NUMBERS are");
    m.does("WRITEINT(0); WRITELN; WRITEINT(32767); WRITELN; WRITEINT(10203)", 1, "0\n32767\n10203");
    text("letters behind it are a word of their own", "MODULE A; CONST c = 0x; END A.", 1, 21);
    text("and may stand there", "MODULE A; BEGIN IF 0=0THEN END END A.", 0, 0);
  }

  private static void bytesOfStrings() {
    for (int b = 0; b < 256; b++) {
      boolean right = b >= 32 && b <= 126 && b != '"';
      String text = "MODULE A; BEGIN WRITESTRING(\"" + (char) b + "\") END A.";
      // Two of the three signs " are a STRING of none: the third one begins one that is not closed.
      text("byte " + b + " in a STRING", text, right ? 0 : 1, right ? 0 : b == '"' ? 30 : 28);
      if (right) {
        Mill.does("byte " + b, "WRITESTRING(\"" + (char) b + "\"); WRITECHAR(\"" + (char) b + "\"); WRITEINT(ORD(\"" + (char) b
            + "\"))", 1, (char) b + "" + (char) b + b);
      }
    }
  }

  private static void lengthsOfStrings() {
    for (int length = 0; length <= 42; length++) {
      String text = "MODULE A; BEGIN WRITESTRING(\"" + Mill.times(length, "s") + "\") END A.";
      text(length + " bytes", text, length <= 40 ? 0 : 1, length <= 40 ? 0 : 28);
    }
    Mill.does("40 bytes", "WRITESTRING(\"" + Mill.times(4, "0123456789") + "\")", 1, Mill.times(4, "0123456789"));
    Mill.does("none", "WRITESTRING(\"\")", 1, "");
    Mill.isWrong("none is no CHAR", 4, "MODULE A; CONST c = ^\"\"; END A.");
    Mill.isRight("one is a CHAR", "MODULE A; CONST c = \"x\"; END A.");
    Mill.isWrong("two are no CHAR", 4, "MODULE A; CONST c = ^\"xy\"; END A.");
  }

  private static void stringsThatAreNotClosed() {
    Mill.isWrong("to the end", 1, "MODULE A; BEGIN WRITESTRING(^\"abc");
    Mill.isWrong("the sign alone", 1, "MODULE A; BEGIN WRITESTRING(^\"");
    Mill.isWrong("in the next line", 1, "MODULE A; BEGIN WRITESTRING(^\"abc\n\") END A.");
    Mill m = new Mill("closed behind the n bytes");
    m.feed("MODULE A; CONST c = \"x\"; END A.");
    m.taken("compile(22)", m.x.compile(22), 1);
    m.taken("its place", m.x.wrong(1), 20);
    m.feed("MODULE A; CONST c = \"x\"; END A.");
    m.taken("compile(23)", m.x.compile(23), 1);
    m.taken("words lack", m.x.wrong(1), 23);
  }

  private static void signs() {
    String[] right = {"<=", "<", ">=", ">", "=", "#"};
    for (String sign : right) {
      Mill.isRight("a sign", Mill.in("b := i" + sign + "1"));
      Mill.isRight("a sign", Mill.in("b := i " + sign + " 1"));
    }
    Mill.isWrong("the longest that can be read", 1, Mill.in("b := i <=^= 1"));
    Mill.isWrong("the longest that can be read", 1, Mill.in("b := i >=^= 1"));
    Mill.isWrong("the longest that can be read", 1, Mill.in("i :=^= 1"));
    Mill.isWrong("two signs", 1, Mill.in("b := i < ^= 1"));
    Mill.isWrong("two signs", 1, Mill.in("b := i > ^= 1"));
    Mill.isWrong("no sign has = first", 1, Mill.in("b := i =^< 1"));
    Mill.isWrong("no sign has = first", 1, Mill.in("b := i =^> 1"));
    Mill.isWrong("<> is none", 1, Mill.in("b := i <^> 1"));
    Mill.isWrong("#= is none", 1, Mill.in("b := i #^= 1"));
    Mill.isWrong("+= is none", 1, Mill.in("i := i +^= 1"));
    Mill.isWrong(".. is none", 1, "MODULE A; END A.^.");
    for (int i = 0; i < BYTES_OF_NO_WORD.length(); i++) {
      Mill.isWrong("a byte that begins no word", 1, Mill.in("i := 1 + ^" + BYTES_OF_NO_WORD.charAt(i)));
    }
    String circumflex = Mill.in("i := 1 + ^");
    text("a byte that begins no word", circumflex, 1, circumflex.indexOf('^'));
    Mill cut = new Mill("cut in the midst of a sign");
    cut.feed(Mill.in("b := i <= 1"));
    int at = Mill.in("b := i <= 1").indexOf("<=");
    cut.taken("compile", cut.x.compile(at + 1), 1);
    cut.taken("words lack", cut.x.wrong(1), at + 1);
  }

  /** The words in capitals are no NAMES; in other letters they are, and so are longer ones. */
  private static void capitals() {
    String[] words = ("ARRAY BEGIN BY CONST DEFINITION DO ELSE ELSIF END EXIT FOR FROM IF IMPLEMENTATION IMPORT LOOP MODULE OF "
        + "PROCEDURE REPEAT RETURN THEN TO UNTIL VAR WHILE INTEGER CHAR BOOLEAN PROCESS TRUE FALSE DIV MOD AND OR NOT").split(" ");
    for (String word : words) {
      Mill.isWrong("no NAME", 1, "MODULE A; VAR x, ^" + word + ": CHAR; END A.");
      Mill.isRight("a NAME", "MODULE A; VAR x, " + word + "1: CHAR; END A.");
      Mill.isRight("a NAME", "MODULE A; VAR x, " + word.toLowerCase() + ": CHAR; END A.");
      Mill.isRight("a NAME", "MODULE A; VAR x, x" + word + ": CHAR; END A.");
      Mill.isRight("a NAME", "MODULE A; VAR x, " + word.substring(0, word.length() - 1) + "z: CHAR; END A.");
    }
    String[] names = ("ORD CHR ABS ODD LENGTH INC DEC HALT WRITEINT WRITECHAR WRITESTRING WRITELN READINT NEWPROCESS TRANSFER "
        + "IOTRANSFER OPENFILE NEWFILE READBYTE WRITEBYTE SETPOS CLOSEFILE DELETEFILE").split(" ");
    for (String name : names) {
      Mill.isRight("hidden by any NAME told", "MODULE A; VAR " + name + ": INTEGER; BEGIN " + name + " := 1 END A.");
      Mill.isRight("hidden by any NAME told", "MODULE A; PROCEDURE p(" + name + ": INTEGER); BEGIN " + name + " := 1 END p; END A.");
    }
  }
}
