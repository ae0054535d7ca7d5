/** The words of a text: promise 3, WRONG 1. */
final class WordsTest {
  public static void main(String[] args) {
    blanks();
    names();
    numbers();
    strings();
    signs();
    firstFailure();
    Mill.end();
  }

  private static void blanks() {
    Mill m = new Mill("blanks and remarks");
    m.right("MODULE\nA(**);(* x (* y *) z *)END\n\n A .  (* not closed");
    m.right("(* MODULE *)MODULE A;END A.(* (* *)");
    m.right("MODULE A; (* any byte: \t\r\u00ff\" *) END A.\n");
    m.right("MODULE A; (* (*) *) *) END A.");
    m.wrong(1, "MODULE A; (* (*) *) END A.");
    m.right("MODULE A; END A.(*");
    m.right("MODULE A; END A.(* *)");
    m.wrong(1, "MODULE A; END A.^(");
    m.wrong(1, "MODULE A (* (* *) ; END A.");
    m.wrong(1, "MODULE A; ^\tEND A.");
    m.wrong(1, "MODULE A; ^\rEND A.");
    m.wrong(1, "MODULE A; END A^\u00e9.");
    m.wrong(1, "MODULE A; END A.^*)");
    m.wrong(1, "^(");
    m.wrong(1, "MODULE A; CONST c = 2 (* *) * ^@; END A.");
    m.wrong(1, "MODULE A; CONST c = 2 (*) * 3; END A.");
    m.right("MODULE A; CONST c = (* ) *)2; END A.");
  }

  private static void names() {
    Mill m = new Mill("NAMES");
    m.right("MODULE abcdefghij0123456789; END abcdefghij0123456789.");
    m.wrong(1, "MODULE ^abcdefghij01234567890; END abcdefghij01234567890.");
    m.right("MODULE Z; VAR end, End, WRITEINT, IFx, x0: CHAR; END Z.");
    m.wrong(1, "MODULE ^END; END END.");
    m.wrong(1, "MODULE ^1a; END a.");
    m.wrong(1, "MODULE A; VAR x^_y: CHAR; END A.");
    m.wrong(3, "MODULE A; END ^a.");
    String[] words = {"ARRAY", "BEGIN", "BY", "CONST", "DEFINITION", "DO", "ELSE", "ELSIF", "END", "EXIT", "FOR", "FROM",
        "IF", "IMPLEMENTATION", "IMPORT", "LOOP", "MODULE", "OF", "PROCEDURE", "REPEAT", "RETURN", "THEN", "TO",
        "UNTIL", "VAR", "WHILE", "INTEGER", "CHAR", "BOOLEAN", "PROCESS", "TRUE", "FALSE", "DIV", "MOD", "AND", "OR",
        "NOT"};
    for (String word : words) {
      m.wrong(1, "MODULE ^" + word + "; END " + word + ".");
    }
  }

  private static void numbers() {
    Mill m = new Mill("NUMBERS");
    m.right("MODULE A; CONST a = 0; b = 32767; c = -32767 - 1; END A.");
    m.wrong(1, "MODULE A; CONST a = ^32768; END A.");
    m.wrong(1, "MODULE A; CONST a = ^99999999999999999999; END A.");
    m.wrong(1, "MODULE A; CONST a = ^00; END A.");
    m.wrong(1, "MODULE A; CONST a = ^07; END A.");
    m.right("MODULE A; BEGIN IF 1=1THEN END END A.");
    m.wrong(1, "MODULE A; CONST a = 12^x; END A.");
  }

  private static void strings() {
    Mill m = new Mill("STRINGS");
    String forty = "0123456789 !#$%&'()*+,-./:;<=>?@[\\]^_`{|";
    m.due("forty bytes", forty.length(), 40);
    String marked = forty.replace('^', '~');
    m.ends("MODULE A; BEGIN WRITESTRING(\"" + marked + "\") END A.", 1, marked);
    m.wrong(1, "MODULE A; BEGIN WRITESTRING(^\"" + marked + "~\") END A.");
    m.ends("MODULE A; BEGIN WRITESTRING(\"\") END A.", 1, "");
    m.wrong(1, "MODULE A; BEGIN WRITESTRING(^\"a\nb\") END A.");
    m.wrong(1, "MODULE A; BEGIN WRITESTRING(^\"a\u007fb\") END A.");
    m.wrong(1, "MODULE A; BEGIN WRITESTRING(^\"ab) END A.");
    m.wrong(1, "MODULE A; BEGIN WRITESTRING(\"ab\"^\"\") END A.");
    m.ends("MODULE A; BEGIN WRITESTRING(\"(* x *)\") END A.", 1, "(* x *)");
  }

  private static void signs() {
    Mill m = new Mill("signs");
    m.does("IF(1<2)AND(2<=2)AND(3>=3)AND(4>3)AND(1#2)AND(1=1)THEN i:=5-2*(-1+1)+1 END;WRITEINT(i)", 1, "6");
    m.wrong(1, "MODULE A; VAR b: BOOLEAN; BEGIN b := 1 < ^= 2 END A.");
    m.wrong(1, "MODULE A; VAR b: BOOLEAN; BEGIN b := 1 <^> 2 END A.");
    m.wrong(4, "MODULE A; VAR b: BOOLEAN; BEGIN ^b : = TRUE END A.");
    m.wrong(1, "MODULE A; BEGIN ^! END A.");
    m.wrong(1, "MODULE A; VAR x: CHAR; BEGIN x :=");
    m.feed("MODULE A; VAR x: CHAR; BEGIN x :=");
    m.taken("compile, cut in the midst of :=", m.x.compile(32), 4);
    m.taken("wrong(1)", m.x.wrong(1), 29);
    m.feed("MODULE A; END A.x");
    m.taken("compile, cut behind the .", m.x.compile(16), 0);
    m.feed("MODULE AB; END AB.");
    m.taken("compile, cut in the midst of a NAME", m.x.compile(16), 3);
    m.feed("MODULE A; CONST c = 1234; END A.");
    m.taken("compile, cut in the midst of a NUMBER", m.x.compile(22), 1);
    m.taken("wrong(1)", m.x.wrong(1), 22);
    m.feed("MODULE A; CONST c = 99999; END A.");
    m.taken("compile, cut in the midst of a NUMBER that is none", m.x.compile(24), 1);
    m.taken("wrong(1)", m.x.wrong(1), 24);
    m.feed("MODULE A; CONST c = \"a\"; END A.");
    m.taken("compile, cut in the midst of a STRING", m.x.compile(22), 1);
    m.taken("wrong(1)", m.x.wrong(1), 20);
    m.wrong(1, "MODULE A; BEGIN HALT ^& END A.");
    m.wrong(1, "MODULE A; CONST c = 3 ^' 4; END A.");
  }

  /** A byte that begins no word is WRONG only when it is come to. */
  private static void firstFailure() {
    Mill m = new Mill("the first place that is come to");
    m.wrong(2, "MODULE A; BEGIN ^x := @ END A.");
    m.wrong(2, "MODULE A; BEGIN ^x @ END A.");
    m.wrong(3, "MODULE A; VAR a, ^a @");
    m.wrong(4, "MODULE A; BEGIN IF ^1 @");
    m.wrong(4, "MODULE A; VAR x: INTEGER; BEGIN ^x @ END A.");
    m.wrong(1, "MODULE A; BEGIN HALT ^@ END A.");
  }
}
