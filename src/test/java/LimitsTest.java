/** CONSTANTS that trap, DEFINITIONS that do not fit, and too many of a thing: promise 3, WRONG 5 to 8. */
final class LimitsTest {
  public static void main(String[] args) {
    constants();
    definitions();
    topNames();
    localNames();
    imports();
    sizes();
    units();
    Mill.end();
  }

  private static void constants() {
    Mill m = new Mill("CONSTANTS");
    String[] trapping = {"32767 + 1", "-32767 - 2", "300 * 300", "-300 * 300", "1 DIV 0", "1 MOD 0", "1 DIV (-1)", "5 MOD (-3)",
        "CHR(256)", "CHR(-1)", "ABS(-32767 - 1)", "-(-32767 - 1)", "(1 DIV 0) * 0", "1 DIV 0 = 1", "ODD(1 DIV 0)",
        "FALSE AND (1 DIV 0 = 1)", "TRUE OR (1 DIV 0 = 1)", "ORD(CHR(256))", "NOT (1 DIV 0 = 1)"};
    for (String c : trapping) {
      m.wrong(5, "MODULE A; CONST c = ^" + c + "; END A.");
    }
    m.right("MODULE A; CONST c = -32767 - 1; d = 181 * 181; e = CHR(255); f = 0 DIV 1; END A.");
    String[] sizes = {"0", "501", "-1", "500 + 1", "1 - 1", "32767 + 1"};
    for (String size : sizes) {
      m.wrong(5, "MODULE A; VAR x: ARRAY ^" + size + " OF CHAR; END A.");
      m.wrong(5, "MODULE A; PROCEDURE p(VAR x: ARRAY ^" + size + " OF CHAR); END p; END A.");
      m.wrong(5, "MODULE A; PROCEDURE p; VAR x: ARRAY ^" + size + " OF CHAR; END p; END A.");
    }
    m.right("MODULE A; VAR x: ARRAY 1 OF CHAR; y: ARRAY 500 OF CHAR; END A.");
    m.wrong(5, Mill.in("FOR i := 1 TO 2 BY ^0 DO END"));
    m.wrong(5, Mill.in("FOR i := 1 TO 2 BY ^k - 7 DO END"));
    m.wrong(5, Mill.in("FOR i := 1 TO 2 BY ^1 DIV 0 DO END"));
    m.right(Mill.in("i := 32767 + 1; i := 1 DIV 0; FOR i := 1 TO 2 BY -32767 - 1 DO END"));
    m.wrong(4, "MODULE A; VAR x: ARRAY ^1 DIV 0 = 1 OF CHAR; END A.");
  }

  private static void definitions() {
    Mill m = new Mill("an IMPLEMENTATION and its DEFINITION");
    m.wrong(6, "IMPLEMENTATION MODULE ^A; END A.");
    m.right("MODULE A; END A.");
    m.wrong(6, "IMPLEMENTATION MODULE ^A; END A.");
    m.wrong(6, "IMPLEMENTATION MODULE ^A END A.");
    String told = "DEFINITION MODULE D; PROCEDURE p(a, b: INTEGER; VAR c: ARRAY 3 OF CHAR; VAR d: CHAR): BOOLEAN; END D.";
    m.right(told);
    String head = "IMPLEMENTATION MODULE D; PROCEDURE ^p";
    String rest = "; BEGIN RETURN TRUE END p; END D.";
    m.right("IMPLEMENTATION MODULE D; PROCEDURE p(a: INTEGER; x: INTEGER; VAR c: ARRAY 1 + 2 OF CHAR; VAR y: CHAR): BOOLEAN"
        + rest);
    String[] others = {
      "", "()", "(a, b: INTEGER; VAR c: ARRAY 3 OF CHAR; VAR d: CHAR)",
      "(a, b: INTEGER; VAR c: ARRAY 3 OF CHAR; VAR d: CHAR): INTEGER",
      "(a, b: INTEGER; VAR c: ARRAY 3 OF CHAR; d: CHAR): BOOLEAN",
      "(VAR a: INTEGER; b: INTEGER; VAR c: ARRAY 3 OF CHAR; VAR d: CHAR): BOOLEAN",
      "(a, b: INTEGER; VAR c: ARRAY 4 OF CHAR; VAR d: CHAR): BOOLEAN",
      "(a, b: INTEGER; VAR c: ARRAY 3 OF INTEGER; VAR d: CHAR): BOOLEAN",
      "(a, b: INTEGER; VAR c: CHAR; VAR d: CHAR): BOOLEAN",
      "(a, b: INTEGER; VAR c: ARRAY 3 OF CHAR): BOOLEAN",
      "(a, b, e: INTEGER; VAR c: ARRAY 3 OF CHAR; VAR d: CHAR): BOOLEAN",
      "(a: INTEGER; b: CHAR; VAR c: ARRAY 3 OF CHAR; VAR d: CHAR): BOOLEAN"
    };
    for (String other : others) {
      m.wrong(6, head + other + rest);
    }
    m.wrong(6, "IMPLEMENTATION MODULE D; PROCEDURE ^p @");
    m.wrong(2, "IMPLEMENTATION MODULE D; PROCEDURE p(VAR c: ARRAY ^n OF CHAR)" + rest);
    m.wrong(6, "IMPLEMENTATION MODULE D; END ^D.");
    m.wrong(6, "IMPLEMENTATION MODULE D; PROCEDURE q; END q; BEGIN END ^D @");
    m.right("DEFINITION MODULE E; PROCEDURE p; PROCEDURE q; END E.");
    m.wrong(6, "IMPLEMENTATION MODULE E; PROCEDURE q; END q; END ^E.");
    m.right("IMPLEMENTATION MODULE E; PROCEDURE q; END q; PROCEDURE p; END p; END E.");
    m.right("DEFINITION MODULE A; END A.");
    m.right("IMPLEMENTATION MODULE A; END A.");
  }

  private static void topNames() {
    Mill m = new Mill("40 NAMES at the top");
    String forty = "VAR " + Mill.list("x", 1, 40) + ": CHAR; ";
    m.right("MODULE A; " + forty + "END A.");
    m.wrong(7, "MODULE A; VAR " + Mill.list("x", 1, 40) + ", ^y: CHAR; END A.");
    m.wrong(7, "MODULE A; " + forty + "CONST ^y = 1; END A.");
    m.wrong(7, "MODULE A; " + forty + "PROCEDURE ^y; END y; END A.");
    m.wrong(3, "MODULE A; " + forty + "PROCEDURE ^x7; END x7; END A.");
    m.wrong(3, "MODULE A; VAR " + Mill.list("x", 1, 40) + ", ^x1: CHAR; END A.");
    m.right("DEFINITION MODULE D; VAR " + Mill.list("x", 1, 38) + ": CHAR; PROCEDURE p; PROCEDURE q; END D.");
    m.wrong(7, "IMPLEMENTATION MODULE D; VAR ^z: CHAR; PROCEDURE p; END p; PROCEDURE q; END q; END D.");
    m.right("IMPLEMENTATION MODULE D; PROCEDURE p; END p; PROCEDURE q; END q; END D.");
    m.right("MODULE B; FROM D IMPORT " + Mill.list("x", 1, 38) + ", p; CONST y = 1; END B.");
    m.wrong(7, "MODULE B; FROM D IMPORT " + Mill.list("x", 1, 38) + ", p; CONST y = 1; ^z = 2; END B.");
    m.right("DEFINITION MODULE E; VAR z: CHAR; END E.");
    m.wrong(7, "MODULE B; FROM D IMPORT " + Mill.list("x", 1, 38) + ", p, q; FROM E IMPORT ^z; END B.");
    m.right("DEFINITION MODULE F; FROM D IMPORT " + Mill.list("x", 1, 30) + "; VAR " + Mill.list("y", 1, 10) + ": CHAR; END F.");
    m.wrong(7, "DEFINITION MODULE F; FROM D IMPORT " + Mill.list("x", 1, 30) + "; VAR " + Mill.list("y", 1, 10) + ", ^z: CHAR; END F.");
    m.right("IMPLEMENTATION MODULE F; VAR " + Mill.list("z", 1, 30) + ": CHAR; END F.");
    m.wrong(7, "IMPLEMENTATION MODULE F; VAR " + Mill.list("z", 1, 30) + ", ^w: CHAR; END F.");
  }

  private static void localNames() {
    Mill m = new Mill("20 NAMES in a procedure, 8 in its GROUPS");
    m.right("MODULE A; PROCEDURE p(" + Mill.list("g", 1, 8) + ": CHAR); VAR " + Mill.list("x", 1, 12) + ": CHAR; END p; END A.");
    m.wrong(7, "MODULE A; PROCEDURE p(" + Mill.list("g", 1, 8) + ": CHAR); VAR " + Mill.list("x", 1, 12) + ", ^y: CHAR; END p; END A.");
    m.right("MODULE A; PROCEDURE p; VAR " + Mill.list("x", 1, 20) + ": CHAR; END p; END A.");
    m.wrong(7, "MODULE A; PROCEDURE p; VAR " + Mill.list("x", 1, 20) + ": CHAR; ^y: CHAR; END p; END A.");
    m.wrong(3, "MODULE A; PROCEDURE p; VAR " + Mill.list("x", 1, 20) + ": CHAR; ^x3: CHAR; END p; END A.");
    m.wrong(7, "MODULE A; PROCEDURE p(" + Mill.list("g", 1, 8) + ", ^h: CHAR); END p; END A.");
    m.wrong(7, "DEFINITION MODULE A; PROCEDURE p(" + Mill.list("g", 1, 8) + ": CHAR; VAR ^h: CHAR); END A.");
    m.wrong(3, "MODULE A; PROCEDURE p(" + Mill.list("g", 1, 8) + ", ^g8: CHAR); END p; END A.");
  }

  private static void imports() {
    Mill m = new Mill("8 units that are imported");
    StringBuilder eight = new StringBuilder();
    for (int i = 1; i <= 9; i++) {
      m.right("DEFINITION MODULE D" + i + "; CONST c" + i + " = " + i + "; d" + i + " = 0; END D" + i + ".");
      if (i <= 8) {
        eight.append("FROM D").append(i).append(" IMPORT c").append(i).append("; ");
      }
    }
    m.right("MODULE A; " + eight + "END A.");
    m.taken("unit(9, 2)", m.x.unit(9, 2), 8);
    m.wrong(7, "MODULE A; " + eight + "FROM ^D9 IMPORT c9; END A.");
    m.wrong(2, "MODULE A; " + eight + "FROM ^D0 IMPORT c9; END A.");
    m.right("MODULE A; " + eight + "FROM D3 IMPORT d3; END A.");
    m.taken("unit(9, 2)", m.x.unit(9, 2), 8);
    m.wrong(7, "DEFINITION MODULE B; " + eight + "FROM ^D9 IMPORT c9; END B.");
  }

  private static void sizes() {
    Mill m = new Mill("words of variables");
    m.right("MODULE A; VAR a, b: ARRAY 500 OF CHAR; END A.");
    m.taken("unit(0, 4)", m.x.unit(0, 4), 1000);
    m.wrong(7, "MODULE A; VAR a, b: ARRAY 500 OF CHAR; ^c: CHAR; END A.");
    m.wrong(7, "MODULE A; VAR a, b, ^c, d: ARRAY 400 OF CHAR; END A.");
    m.wrong(7, "MODULE A; VAR a, b, ^c: ARRAY 334 OF CHAR @");
    m.wrong(1, "MODULE A; VAR a, b, c: ARRAY 334 OF ^@");
    m.right("DEFINITION MODULE D; VAR a, b: ARRAY 400 OF CHAR; END D.");
    m.wrong(7, "DEFINITION MODULE E; VAR a, b, ^c: ARRAY 400 OF CHAR; END E.");
    m.right("IMPLEMENTATION MODULE D; VAR c: ARRAY 199 OF CHAR; d: CHAR; END D.");
    m.wrong(7, "IMPLEMENTATION MODULE D; VAR c: ARRAY 199 OF CHAR; d, ^e: CHAR; END D.");
    m.right("MODULE B; FROM D IMPORT a, b; VAR c, d: ARRAY 500 OF CHAR; END B.");
    m.right("MODULE A; PROCEDURE p; VAR a: ARRAY 300 OF CHAR; END p; END A.");
    m.wrong(7, "MODULE A; PROCEDURE p; VAR ^a: ARRAY 301 OF CHAR; END p; END A.");
    m.wrong(7, "MODULE A; PROCEDURE p(g: CHAR); VAR ^a: ARRAY 300 OF CHAR; END p; END A.");
    m.right("MODULE A; PROCEDURE p(VAR g: ARRAY 500 OF CHAR); VAR a: ARRAY 299 OF CHAR; END p; END A.");
    m.wrong(7, "MODULE A; PROCEDURE p; VAR a: ARRAY 299 OF CHAR; b, ^c: CHAR; END p; END A.");
    m.right("MODULE A; PROCEDURE p; VAR a: ARRAY 300 OF CHAR; END p; PROCEDURE q; VAR a: ARRAY 300 OF CHAR; END q; END A.");
  }

  private static void units() {
    Mill m = new Mill("16 NAMES of units");
    for (int i = 0; i < 16; i++) {
      m.right((i % 2 == 0 ? "" : "DEFINITION ") + "MODULE U" + i + "; END U" + i + ".");
      m.taken("wrong(2)", m.x.wrong(2), i);
      m.taken("wrong(3)", m.x.wrong(3), i + 1);
    }
    m.wrong(8, "MODULE ^V; END V.");
    m.wrong(8, "DEFINITION MODULE ^V @");
    m.wrong(8, "IMPLEMENTATION MODULE ^V; END V.");
    m.taken("wrong(3)", m.x.wrong(3), 16);
    m.right("DEFINITION MODULE U0; END U0.");
    m.right("IMPLEMENTATION MODULE U15; END U15.");
    m.wrong(6, "IMPLEMENTATION MODULE ^U2; END U2.");
    m.taken("link(14)", m.x.link(14), 1);
    m.taken("unit(15, 1)", m.x.unit(15, 1), 1);
  }
}
