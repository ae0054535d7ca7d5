/**
 * 'The first word of a thing that would be the 21st of these in one another: STATEMENTS that are not empty, EXPRESSIONS,
 * FACTORS behind NOT': twenty of them are right, wherever they stand.
 */
final class LevelBoundsTest {
  private static final String[] BODIES = {
    // The STATEMENTS of each BODY are the first level, whatever BODY it is.
    "MODULE A; #BEGIN % END A.",
    "MODULE A; #PROCEDURE P; BEGIN % END P; END A.",
    "MODULE A; #PROCEDURE P(x: CHAR; VAR y: CHAR); VAR z: CHAR; BEGIN HALT; % END P; BEGIN HALT END A.",
    "MODULE A; #PROCEDURE P(): INTEGER; BEGIN %; RETURN 1 END P; END A.",
    "IMPLEMENTATION MODULE D; #BEGIN % END D.",
  };
  private static final String VARIABLES = "VAR i: INTEGER; b: BOOLEAN; c: CHAR; a: ARRAY 5 OF INTEGER; q: PROCESS; "
      + "PROCEDURE v(VAR x: INTEGER); END v; PROCEDURE f(x: INTEGER): INTEGER; BEGIN RETURN x END f; "
      + "PROCEDURE g(x: BOOLEAN): BOOLEAN; BEGIN RETURN x END g; ";

  public static void main(String[] args) {
    statements();
    emptyStatements();
    expressions();
    expressionsOfStatements();
    factorsBehindNot();
    mixed();
    constants();
    besideOneAnother();
    Mill.end();
  }

  private static Mill mill(String title) {
    Mill m = new Mill(title);
    m.right("DEFINITION MODULE D; END D.");
    return m;
  }

  private static void right(String statements) {
    for (String body : BODIES) {
      mill("twenty levels").right(body.replace("#", VARIABLES).replace("%", statements));
    }
  }

  private static void wrong(String statements) {
    for (String body : BODIES) {
      mill("the 21st level").wrong(1, body.replace("#", VARIABLES).replace("%", statements));
    }
  }

  /** One within the other, so many times: what stands ahead, what is innermost, what stands behind. */
  private static String nested(int times, String ahead, String inner, String behind) {
    return Mill.times(times, ahead) + inner + Mill.times(times, behind);
  }

  private static void statements() {
    String[][] around = {
      {"LOOP ", " END"}, {"LOOP HALT; ", "; HALT END"}, {"LOOP ; ", " END"}, {"IF b THEN ", " END"}, {"IF b THEN HALT ELSE ", " END"},
      {"IF b THEN ELSIF b THEN ", " END"}, {"IF b THEN ELSIF b THEN ", " ELSIF b THEN ELSE END"}, {"WHILE b DO ", " END"},
      {"FOR i := 1 TO 2 DO ", " END"}, {"FOR i := 1 TO 2 BY 3 DO ", " END"}, {"REPEAT ", " UNTIL b"},
    };
    for (String[] one : around) {
      right(nested(19, one[0], "HALT", one[1]));
      right(nested(18, one[0], "i := 1", one[1]));
    }
    // The 20th of these has its STATEMENTS as the 21st level.
    wrong(nested(20, "LOOP ", "^HALT", " END"));
    wrong(nested(20, "REPEAT ", "^HALT", " UNTIL b"));
    wrong(nested(19, "LOOP HALT; ", "LOOP ^LOOP END END", " END"));
    wrong(nested(19, "LOOP ", "REPEAT ^i := 1 UNTIL b", " END"));
    // The 20th of these has an EXPRESSION as the 21st level, ahead of its STATEMENTS.
    wrong(nested(19, "IF b THEN ", "IF ^b THEN END", " END"));
    wrong(nested(19, "WHILE b DO ", "WHILE ^b DO END", " END"));
    wrong(nested(19, "REPEAT ", "REPEAT UNTIL ^b", " UNTIL b"));
    wrong(nested(19, "FOR i := 1 TO 2 DO ", "FOR i := ^1 TO 2 DO END", " END"));
    String[] words = {"IF b THEN END", "WHILE b DO END", "REPEAT UNTIL b", "LOOP END", "EXIT", "FOR i := 1 TO 2 DO END", "RETURN", "HALT",
        "i := 1", "a[1] := 1"};
    for (String word : words) {
      wrong(nested(20, "LOOP ", "^" + word, " END"));
    }
  }

  /** STATEMENTS that are empty are no level. */
  private static void emptyStatements() {
    right(nested(20, "LOOP ", "", " END"));
    right(nested(19, "IF b THEN ELSE ", "", " END"));
    right(nested(19, "LOOP ", "LOOP END; LOOP END", " END"));
    right(nested(19, "LOOP ", "REPEAT ", " END").replaceFirst("REPEAT ", "LOOP END"));
    wrong(nested(20, "LOOP ", "^LOOP END", " END"));
  }

  private static void expressions() {
    String[][] around = {
      {"(", ")"}, {"1 + (", ")"}, {"-(", ") * 2"}, {"a[", "]"}, {"1 + a[", "]"}, {"ABS(", ")"}, {"f(", ")"}, {"LENGTH(", ")"},
      {"2 * f(", ") DIV 3"},
    };
    for (String[] one : around) {
      // STATEMENTS, the EXPRESSION behind := and eighteen within it
      right("i := " + nested(18, one[0], "1", one[1]));
      wrong("i := " + nested(19, one[0], "^1", one[1]));
      wrong("i := " + nested(19, one[0], "^-i", one[1]));
      right("b := 1 = " + nested(18, one[0], "1", one[1]));
      wrong("b := 1 = " + nested(19, one[0], "^1", one[1]));
      right("WRITEINT(" + nested(18, one[0], "1", one[1]) + ")");
      wrong("WRITEINT(" + nested(19, one[0], "^1", one[1]) + ")");
      right("a[" + nested(18, one[0], "1", one[1]) + "] := 1");
      wrong("a[" + nested(19, one[0], "^1", one[1]) + "] := 1");
      right("v(a[" + nested(17, one[0], "1", one[1]) + "])");
      wrong("v(a[" + nested(18, one[0], "^1", one[1]) + "])");
    }
    wrong("i := " + nested(19, "(", "^(", ")"));
    wrong("i := " + nested(19, "(", "^\"ab\"", ")"));
    wrong("i := " + nested(19, "(", "^none", ")"));
  }

  /** Each EXPRESSION of a STATEMENT in eighteen and in nineteen LOOPS. */
  private static void expressionsOfStatements() {
    String[] all = {
      "i := ^1", "a[^1] := 1", "IF ^b THEN END", "WHILE ^b DO END", "REPEAT UNTIL ^b", "FOR i := ^1 TO 2 DO END",
      "WRITEINT(^1)", "INC(^i)", "v(^i)", "WRITESTRING(^\"ab\")", "NEWPROCESS(^N, 16, q)", "TRANSFER(^q, q)", "CLOSEFILE(^1)",
    };
    for (String one : all) {
      String procedure = one.contains("N,") ? "PROCEDURE N; END N; " : "";
      for (String body : BODIES) {
        String text = body.replace("#", VARIABLES + procedure);
        mill("twenty levels").right(text.replace("%", nested(18, "LOOP ", one.replace("^", ""), " END")));
        mill("the 21st level").wrong(1, text.replace("%", nested(19, "LOOP ", one, " END")));
      }
    }
    // Not the first EXPRESSION of its STATEMENT, but the first that is too deep.
    wrong(nested(18, "LOOP ", "a[1] := (^1)", " END"));
    wrong(nested(18, "LOOP ", "i := 1 + (^1)", " END"));
    wrong(nested(18, "LOOP ", "INC(i, (^1))", " END"));
    wrong(nested(18, "LOOP ", "IF b THEN ELSIF (^b) THEN END", " END"));
    wrong(nested(18, "LOOP ", "FOR i := 1 TO (^2) DO END", " END"));
    wrong(nested(18, "LOOP ", "FOR i := 1 TO 2 BY (^3) DO END", " END"));
    right(nested(17, "LOOP ", "a[1] := (1); FOR i := 1 TO (2) BY (3) DO END", " END"));
    Mill.isRight("RETURN", "MODULE A; PROCEDURE P(): INTEGER; BEGIN " + nested(18, "LOOP ", "RETURN 1", " END") + " END P; END A.");
    Mill.isWrong("RETURN", 1, "MODULE A; PROCEDURE P(): INTEGER; BEGIN " + nested(19, "LOOP ", "RETURN ^1", " END") + " END P; END A.");
  }

  private static void factorsBehindNot() {
    right("b := " + nested(18, "NOT ", "b", ""));
    wrong("b := " + nested(19, "NOT ", "^b", ""));
    wrong("b := " + nested(19, "NOT ", "^NOT b", ""));
    wrong("b := " + nested(19, "NOT ", "^(b)", ""));
    wrong("b := " + nested(19, "NOT ", "^TRUE", ""));
    right("b := b AND " + nested(18, "NOT ", "b", "") + " OR " + nested(18, "NOT ", "b", ""));
    wrong("b := b AND " + nested(19, "NOT ", "^b", ""));
    right("IF " + nested(18, "NOT ", "b", "") + " THEN END");
    wrong("IF " + nested(19, "NOT ", "^b", "") + " THEN END");
  }

  private static void mixed() {
    // NOT ( is two levels: the FACTOR and the EXPRESSION in it.
    right("b := " + nested(9, "NOT (", "b", ")"));
    right("b := " + nested(9, "NOT (", "NOT b", ")").replaceFirst("NOT \\(", "("));
    wrong("b := " + nested(9, "NOT (", "NOT ^b", ")"));
    wrong("b := " + nested(9, "NOT (", "(^b)", ")"));
    right("b := " + nested(9, "NOT g(", "b", ")"));
    wrong("b := " + nested(9, "NOT g(", "(^b)", ")"));
    right(nested(6, "LOOP ", "b := " + nested(6, "NOT ", nested(6, "g(", "b", ")"), ""), " END"));
    wrong(nested(6, "LOOP ", "b := " + nested(6, "NOT ", nested(6, "g(", "NOT ^b", ")"), ""), " END"));
    wrong(nested(7, "LOOP ", "b := " + nested(6, "NOT ", nested(5, "g(", "g(^b)", ")"), ""), " END"));
  }

  private static void constants() {
    String[] texts = {"MODULE A; CONST c = %; END A.", "MODULE A; VAR x: ARRAY % OF CHAR; END A.", "DEFINITION MODULE A; CONST c = %; END A.",
        "MODULE A; PROCEDURE p(VAR x: ARRAY % OF CHAR); END p; END A.", "MODULE A; PROCEDURE p; VAR x: ARRAY % OF CHAR; END p; END A."};
    for (String text : texts) {
      Mill.isRight("a CONSTANT is the first level", text.replace("%", nested(19, "(", "1", ")")));
      Mill.isWrong("the 21st level", 1, text.replace("%", nested(20, "(", "^1", ")")));
      Mill.isRight("functions", text.replace("%", nested(19, "ABS(", "1", ")")));
      Mill.isWrong("the 21st level", 1, text.replace("%", nested(20, "ABS(", "^1", ")")));
    }
    Mill.isRight("FACTORS", "MODULE A; CONST c = " + nested(19, "NOT ", "TRUE", "") + "; END A.");
    Mill.isWrong("the 21st level", 1, "MODULE A; CONST c = " + nested(20, "NOT ", "^TRUE", "") + "; END A.");
  }

  /** What stands beside one another is no level more. */
  private static void besideOneAnother() {
    right(Mill.times(100, "LOOP END; "));
    right("i := " + Mill.times(100, "(1) + ") + "1");
    right("b := " + Mill.times(60, "NOT b AND ") + "b");
    right("i := " + Mill.times(60, "a[1] * ") + nested(18, "(", "1", ")") + " + " + nested(18, "(", "1", ")"));
    right(Mill.times(9, nested(19, "LOOP ", "HALT", " END") + "; "));
    right("IF b THEN " + Mill.times(60, "ELSIF b THEN ") + nested(18, "LOOP ", "HALT", " END") + " END");
  }
}
