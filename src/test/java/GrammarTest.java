/** The grammar of UNITS: promise 3, WRONG 1, and how deep things may stand in one another. */
final class GrammarTest {
  public static void main(String[] args) {
    right();
    anyNumber();
    wrongWords();
    cut();
    nesting();
    nestedArguments();
    Mill.end();
  }

  private static void right() {
    Mill m = new Mill("units that are right");
    m.right("DEFINITION MODULE D; CONST VAR CONST c = 1; d = c + 1; VAR x, y: INTEGER; z: ARRAY d OF CHAR; "
        + "PROCEDURE p; PROCEDURE q(); PROCEDURE r(a, b: CHAR; VAR c, d: ARRAY 2 OF PROCESS): PROCESS; "
        + "CONST e = 5; PROCEDURE f: INTEGER; END D.");
    m.right("DEFINITION MODULE E; FROM D IMPORT c, x; FROM D IMPORT p; END E.");
    m.right("IMPLEMENTATION MODULE E; END E.");
    m.right("MODULE M; FROM D IMPORT c; END M.");
    m.right("MODULE M; VAR a: CHAR; PROCEDURE p; END p; VAR b: CHAR; PROCEDURE q; VAR VAR x: CHAR; VAR y: CHAR; "
        + "BEGIN END q; CONST k = 1; BEGIN ; ; p; ; q() ; END M.");
    m.right("MODULE M; VAR i: INTEGER; BEGIN IF TRUE THEN ELSIF FALSE THEN ; ELSIF TRUE THEN i := 1; ELSE END; "
        + "WHILE FALSE DO END; REPEAT UNTIL TRUE; LOOP EXIT END; FOR i := 1 TO 2 BY 3 DO END; RETURN END M.");
  }

  /** What may lack, and what may come any number of times. */
  private static void anyNumber() {
    Mill from = new Mill("IMPORTS");
    from.right("DEFINITION MODULE D; CONST c = 1; d = 2; VAR x: CHAR; PROCEDURE p; END D.");
    from.right("DEFINITION MODULE E; CONST e = 1; END E.");
    String[] imports = {"", "FROM D IMPORT c; ", "FROM D IMPORT c, d; ", "FROM D IMPORT c, d, x, p; ", "FROM D IMPORT c; FROM E IMPORT e; ",
        "FROM D IMPORT c; FROM D IMPORT d; FROM E IMPORT e; FROM D IMPORT x; "};
    for (String some : imports) {
      from.right("MODULE A; " + some + "END A.");
      from.right("DEFINITION MODULE A; " + some + "END A.");
      from.right("IMPLEMENTATION MODULE A; " + some + "END A.");
    }
    String[] parts = {"CONST ", "CONST k = 1; ", "CONST l = 1; m = 2; n = 3; ", "VAR ", "VAR v: CHAR; ", "VAR w, x: CHAR; y: ARRAY 2 OF CHAR; ",
        "PROCEDURE p; ", "PROCEDURE q(a: CHAR): CHAR; "};
    for (String first : parts) {
      for (String second : parts) {
        for (String third : parts) {
          if (!first.equals(second) && !second.equals(third) && !first.equals(third)) {
            Mill.isRight("HEADS in any order", "DEFINITION MODULE A; " + first + second + third + "END A.");
            String all = first + second + third;
            Mill.isRight("PARTS in any order", "MODULE A; " + all.replace("PROCEDURE p; ", "PROCEDURE p; END p; ")
                .replace("PROCEDURE q(a: CHAR): CHAR; ", "PROCEDURE q(a: CHAR): CHAR; VAR b: CHAR; BEGIN RETURN a END q; ") + "BEGIN END A.");
          }
        }
      }
    }
    String[] heads = {"p", "p()", "p(a: CHAR)", "p(a, b: CHAR)", "p(a: CHAR; b: INTEGER)", "p(VAR a: CHAR)", "p(VAR a, b: ARRAY 2 OF CHAR)",
        "p(a: PROCESS; VAR b: BOOLEAN; c, d: CHAR)"};
    String[] results = {"", ": INTEGER", ": CHAR", ": BOOLEAN", ": PROCESS"};
    String[] locals = {"", "VAR ", "VAR x: CHAR; ", "VAR VAR x, y: CHAR; z: ARRAY 2 OF CHAR; VAR w: CHAR; VAR "};
    String[] bodies = {"END p; ", "BEGIN END p; ", "BEGIN ; END p; ", "BEGIN HALT END p; ", "BEGIN HALT; HALT; END p; "};
    for (String head : heads) {
      for (String result : results) {
        Mill.isRight("a HEAD", "DEFINITION MODULE A; PROCEDURE " + head + result + "; END A.");
        for (String some : locals) {
          for (String body : bodies) {
            Mill.isRight("a procedure", "MODULE A; PROCEDURE " + head + result + "; " + some + body + "END A.");
          }
        }
      }
    }
  }

  private static void wrongWords() {
    Mill m = new Mill("words that can't stand there");
    m.right("DEFINITION MODULE D; CONST c = 1; END D.");
    m.wrong(1, "^PROGRAM A; END A.");
    m.wrong(1, "DEFINITION ^A; END A.");
    m.wrong(1, "IMPLEMENTATION ^DEFINITION MODULE A; END A.");
    m.wrong(1, "MODULE A^: END A.");
    m.wrong(1, "MODULE A; FROM ^; END A.");
    m.wrong(1, "MODULE A; FROM D ^EXPORT c; END A.");
    m.wrong(1, "MODULE A; FROM D IMPORT ^; END A.");
    m.wrong(1, "MODULE A; FROM D IMPORT c, ^; END A.");
    m.wrong(1, "MODULE A; FROM D IMPORT c ^END A.");
    m.wrong(1, "MODULE A; CONST k = 1; ^FROM D IMPORT c; END A.");
    m.wrong(1, "MODULE A; ^x: CHAR; END A.");
    m.wrong(1, "MODULE A; CONST c ^:= 1; END A.");
    m.wrong(1, "MODULE A; CONST c = ^; END A.");
    m.wrong(1, "MODULE A; CONST c = 1^, d = 2; END A.");
    m.wrong(1, "MODULE A; VAR x^; END A.");
    m.wrong(1, "MODULE A; VAR x: ^REAL; END A.");
    m.wrong(1, "MODULE A; VAR x: ARRAY 3 ^CHAR; END A.");
    m.wrong(1, "MODULE A; VAR x: ARRAY 3 OF ^ARRAY 3 OF CHAR; END A.");
    m.wrong(1, "MODULE A; VAR x: CHAR ^END A.");
    m.wrong(1, "MODULE A; PROCEDURE ^; END A.");
    m.wrong(1, "MODULE A; PROCEDURE p(x: ^ARRAY 3 OF CHAR); END p; END A.");
    m.wrong(1, "MODULE A; PROCEDURE p(x: CHAR^, y: CHAR); END p; END A.");
    m.wrong(1, "MODULE A; PROCEDURE p(x: CHAR;^); END p; END A.");
    m.wrong(1, "MODULE A; PROCEDURE p(VAR ^VAR x: CHAR); END p; END A.");
    m.wrong(1, "MODULE A; PROCEDURE p: ^ARRAY 3 OF CHAR; END p; END A.");
    m.wrong(1, "MODULE A; PROCEDURE p; ^CONST c = 1; END p; END A.");
    m.wrong(1, "MODULE A; PROCEDURE p; ^PROCEDURE q; END q; END p; END A.");
    m.wrong(1, "MODULE A; PROCEDURE p; END p ^END A.");
    m.wrong(1, "MODULE A; PROCEDURE p; END ^; END A.");
    m.wrong(1, "DEFINITION MODULE A; PROCEDURE p; ^BEGIN END p; END A.");
    m.wrong(1, "DEFINITION MODULE A; ^BEGIN END A.");
    m.wrong(1, "MODULE A; BEGIN END A^; ");
    m.wrong(1, "MODULE A; BEGIN END ^.");
    m.wrong(1, "MODULE A; END A.^.");
    m.wrong(1, "MODULE A; END A. ^MODULE B; END B.");
    statements();
  }

  private static void statements() {
    String[] wrong = {
      "i := 1 ^j := 2", "a[1 ^:= 2", "a[1] ^; i := 1", "a[^] := 1", "i := (1 ^; HALT", "i := 1 + ^; HALT",
      "i := 1 ^1", "i := ^* 2", "b := i = j ^= i", "i := 1 + ^- 2", "b := NOT ^; HALT", "i := ^; HALT",
      "IF TRUE ^DO END", "IF TRUE THEN ^UNTIL", "IF TRUE THEN ELSE ^ELSIF TRUE THEN END", "IF TRUE THEN ELSE ^ELSE END",
      "WHILE TRUE ^THEN END", "REPEAT ^END", "REPEAT UNTIL ^; HALT", "LOOP ^UNTIL TRUE", "FOR ^1 := 1 TO 2 DO END",
      "FOR i ^= 1 TO 2 DO END", "FOR i := 1 ^DO END", "FOR i := 1 TO 2 BY ^DO END", "FOR i := 1 TO 2 ^THEN END",
      "HALT ^HALT", "^)EXIT", "WRITEINT(1 ^; HALT", "WRITEINT(1 ^2)", "WRITEINT(^,)", "WRITEINT(1, ^)",
      "INC(i, ^)", "^THEN", "^1 := 2", "^\"a\"", "INC(i ^+ 1)", "INC(a[1] ^+ 1)", "WRITESTRING(\"ab\" ^= \"c\")",
      "RETURN ^]"
    };
    for (String statement : wrong) {
      Mill.isWrong("words that can't stand there", 1, Mill.in(statement));
    }
    Mill.isWrong("no procedure", 4, Mill.in("^i = 1"));
  }

  /** Every text that is cut short is WRONG 1 at its end, or at a word that was cut. */
  private static void cut() {
    Mill m = new Mill("texts that are cut short");
    String text = "MODULE A; CONST c = 1; VAR x: INTEGER; PROCEDURE p(VAR y: CHAR): CHAR; BEGIN RETURN y END p; "
        + "BEGIN x := (c + 1) * 2 END A.";
    for (int n = 0; n < text.length(); n++) {
      m = new Mill("the first " + n + " bytes");
      m.feed(text);
      int what = m.x.compile(n);
      int place = m.x.wrong(1);
      m.due("it is WRONG", what > 0 ? 1 : 0, 1);
      boolean ends = n == 0 || text.charAt(n - 1) == ' ' || text.charAt(n - 1) == ';';
      if (ends && what == 1) {
        m.due("place", place, n);
      }
    }
  }

  private static void nesting() {
    Mill.isRight("in one another", Mill.in("i := " + Mill.times(18, "(") + "1" + Mill.times(18, ")")));
    Mill.isWrong("in one another", 1, Mill.in("i := " + Mill.times(19, "(") + "^1" + Mill.times(19, ")")));
    Mill.isWrong("in one another", 1, Mill.in("i := " + Mill.times(19, "(") + "^(1" + Mill.times(20, ")")));
    Mill.isRight("in one another", "MODULE A; CONST c = " + Mill.times(19, "(") + "1" + Mill.times(19, ")") + "; END A.");
    Mill.isWrong("in one another", 1, "MODULE A; CONST c = " + Mill.times(20, "(") + "^1" + Mill.times(20, ")") + "; END A.");
    Mill.isRight("in one another", "MODULE A; VAR x: ARRAY " + Mill.times(19, "(") + "1" + Mill.times(19, ")") + " OF CHAR; END A.");
    Mill.isWrong("in one another", 1, "MODULE A; VAR x: ARRAY " + Mill.times(20, "(") + "^1" + Mill.times(20, ")") + " OF CHAR; END A.");
    Mill.isRight("in one another", Mill.in("FOR i := 1 TO 2 BY " + Mill.times(18, "(") + "1" + Mill.times(18, ")") + " DO END"));
    Mill.isWrong("in one another", 1, Mill.in("FOR i := 1 TO 2 BY " + Mill.times(19, "(") + "^1" + Mill.times(19, ")") + " DO END"));
    Mill.isRight("in one another", Mill.in("b := " + Mill.times(18, "NOT ") + "b"));
    Mill.isWrong("in one another", 1, Mill.in("b := " + Mill.times(19, "NOT ") + "^b"));
    Mill.isRight("in one another", Mill.in("b := " + Mill.times(17, "NOT ") + "(b)"));
    Mill.isWrong("in one another", 1, Mill.in("b := " + Mill.times(18, "NOT ") + "(^b)"));
    Mill.isRight("in one another", Mill.in("i := " + Mill.times(18, "a[") + "1" + Mill.times(18, "]")));
    Mill.isWrong("in one another", 1, Mill.in("i := " + Mill.times(19, "a[") + "^1" + Mill.times(19, "]")));
    Mill.isRight("in one another", Mill.in("i := " + Mill.times(18, "ABS(") + "1" + Mill.times(18, ")")));
    Mill.isWrong("in one another", 1, Mill.in("i := " + Mill.times(19, "ABS(") + "^1" + Mill.times(19, ")")));
    Mill.isRight("in one another", Mill.in(Mill.times(19, "LOOP ") + "EXIT" + Mill.times(19, " END")));
    Mill.isWrong("in one another", 1, Mill.in(Mill.times(20, "LOOP ") + "^EXIT" + Mill.times(20, " END")));
    Mill.isRight("in one another", Mill.in(Mill.times(20, "LOOP ") + Mill.times(20, " END")));
    Mill.isWrong("in one another", 1, Mill.in(Mill.times(20, "LOOP ") + "^LOOP END" + Mill.times(20, " END")));
    Mill.isRight("in one another", Mill.in(Mill.times(18, "IF b THEN ") + "i := 1" + Mill.times(18, " END")));
    Mill.isWrong("in one another", 1, Mill.in(Mill.times(19, "IF b THEN ") + "i := ^1" + Mill.times(19, " END")));
    Mill.isWrong("in one another", 1, Mill.in(Mill.times(19, "IF b THEN ") + "IF ^b THEN END" + Mill.times(19, " END")));
    Mill.isWrong("in one another", 1, Mill.in(Mill.times(19, "LOOP ") + "FOR i := ^1 TO 2 DO END" + Mill.times(19, " END")));
    Mill.isRight("in one another", Mill.in("b := 1 = " + Mill.times(18, "(") + "1" + Mill.times(18, ")")));
    Mill.isWrong("in one another", 1, Mill.in("b := 1 = " + Mill.times(19, "(") + "^1" + Mill.times(19, ")")));
    Mill.isRight("in one another", Mill.in("i := 1 + 2 * " + Mill.times(18, "(") + "1" + Mill.times(18, ")")));
    Mill.isWrong("in one another", 1, Mill.in("i := 1 + 2 * " + Mill.times(19, "(") + "^1" + Mill.times(19, ")")));
    Mill.isWrong("in one another", 1, Mill.in("i := -" + Mill.times(19, "(") + "^1" + Mill.times(19, ")")));
    Mill.isRight("in one another", Mill.in("HALT; " + Mill.times(19, "LOOP HALT; ") + "EXIT" + Mill.times(19, " END")));
    Mill.isWrong("in one another", 1, Mill.in("HALT; " + Mill.times(19, "LOOP HALT; ") + "LOOP ^HALT END" + Mill.times(19, " END")));
    Mill.isRight("in one another", Mill.in(Mill.times(18, "IF b THEN ELSIF b THEN ELSE ") + "i := 1" + Mill.times(18, " END")));
    Mill.isWrong("in one another", 1, Mill.in(Mill.times(19, "IF b THEN ELSIF b THEN ELSE ") + "i := ^1" + Mill.times(19, " END")));
    Mill.isWrong("in one another", 1, Mill.in(Mill.times(19, "REPEAT ") + "REPEAT UNTIL ^b" + Mill.times(19, " UNTIL b")));
    Mill.isWrong("in one another", 1, Mill.in(Mill.times(19, "LOOP ") + "a[^1] := 2" + Mill.times(19, " END")));
    Mill.isWrong("in one another", 1, Mill.in(Mill.times(19, "LOOP ") + "WRITEINT(^1)" + Mill.times(19, " END")));
    Mill.isWrong("in one another", 1, Mill.in(Mill.times(19, "LOOP ") + "INC(^i, 1)" + Mill.times(19, " END")));
    Mill.isRight("in one another", Mill.in("i := 1" + Mill.times(500, " + 1")));
    Mill.isRight("in one another", Mill.in("i := " + Mill.times(300, "(1) + ") + "(1)"));
    Mill.isRight("in one another", Mill.in(Mill.times(100, "LOOP EXIT END; ")));
  }

  /** Each ARGUMENT is a level, whatever is wanted there. */
  private static void nestedArguments() {
    String[] calls = {
      "INC(^i)", "DEC(^i, 1)", "READINT(^i)", "TRANSFER(^p, q)", "IOTRANSFER(^p, q)", "WRITESTRING(^\"\")",
      "WRITESTRING(^\"a\")", "WRITESTRING(^\"ab\")", "OPENFILE(^\"ab\", i)", "NEWFILE(^\"ab\", i)",
      "DELETEFILE(^\"ab\")", "NEWPROCESS(^P, 16, p)", "READBYTE(^i, i)", "V(^i)", "W(^a)", "b := F(^i)",
    };
    for (String call : calls) {
      // What stands behind := is a level itself.
      int tooMany = call.startsWith("b := ") ? 18 : 19;
      Mill one = new Mill("levels of " + call);
      one.right(inLoops(tooMany - 1, call.replace("^", "")));
      one.wrong(1, inLoops(tooMany, call));
    }
    Mill m = new Mill("levels of ARGUMENTS");
    m.right(inLoops(17, "INC(a[1])"));
    m.wrong(1, inLoops(18, "INC(a[^1])"));
    m.wrong(1, inLoops(19, "INC(^a[1])"));
    m.wrong(1, inLoops(18, "OPENFILE(\"ab\", a[^1])"));
    m.wrong(1, inLoops(18, "TRANSFER(p, r[^1])"));
    m.wrong(1, inLoops(17, "b := F(a[^1])"));
    m.right(inLoops(16, "b := F(a[1])"));
    m.right(Mill.in("INC(" + Mill.times(18, "a[") + "1" + Mill.times(18, "]") + ")"));
    m.wrong(1, Mill.in("INC(" + Mill.times(19, "a[") + "^1" + Mill.times(19, "]") + ")"));
    // At the 21st its word can't stand there, whatever it is.
    m.wrong(1, inLoops(19, "INC(^3)"));
    m.wrong(1, inLoops(19, "INC(^none)"));
    m.wrong(1, inLoops(19, "WRITESTRING(^i)"));
    m.wrong(1, inLoops(19, "NEWPROCESS(^16, 16, p)"));
    m.wrong(4, inLoops(18, "INC(^3)"));
    m.wrong(2, inLoops(18, "INC(^none)"));
    m.wrong(4, inLoops(18, "WRITESTRING(^i)"));
    m.wrong(4, inLoops(18, "NEWPROCESS(^16, 16, p)"));
    m.right(inLoops(19, "HALT; WRITELN; P; P()"));
  }

  private static String inLoops(int loops, String statements) {
    return "MODULE A; VAR i: INTEGER; b: BOOLEAN; p, q: PROCESS; a: ARRAY 5 OF INTEGER; r: ARRAY 2 OF PROCESS; "
        + "PROCEDURE P; END P; PROCEDURE V(VAR x: INTEGER); END V; PROCEDURE W(VAR x: ARRAY 5 OF INTEGER); END W; "
        + "PROCEDURE F(VAR x: INTEGER): BOOLEAN; END F; BEGIN "
        + Mill.times(loops, "LOOP ") + statements + Mill.times(loops, " END") + " END A.";
  }
}
