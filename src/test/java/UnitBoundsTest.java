/** WRONG 2, 3, 6, 7 and 8 at their edges, and '2 UNITS AND KEYS': NAMES of units, KEYS, what is OLD and what is LACKING. */
final class UnitBoundsTest {
  public static void main(String[] args) {
    fortyNames();
    fortyOfADefinition();
    twentyNames();
    eightOfGroups();
    eightUnits();
    thousandWords();
    threeHundredWords();
    fortyProcedures();
    headsOfADefinition();
    namesOfProcedures();
    sixteenUnits();
    placeOfAnother();
    keys();
    wrongChangesNothing();
    chainOfSixteen();
    lackingAndOld();
    oneAnother();
    Mill.end();
  }

  /** NAMES at the top, each told in its own way. */
  private static String told(String sort, String names) {
    StringBuilder all = new StringBuilder();
    for (String name : names.split(", ")) {
      switch (sort) {
        case "CONST":
          all.append("CONST ").append(name).append(" = 1; ");
          break;
        case "VAR":
          all.append("VAR ").append(name).append(": CHAR; ");
          break;
        default:
          all.append("PROCEDURE ").append(name).append("; END ").append(name.replace("^", "")).append("; ");
          break;
      }
    }
    return all.toString();
  }

  private static void fortyNames() {
    String[] sorts = {"CONST", "VAR", "PROCEDURE"};
    for (String first : sorts) {
      String forty = "MODULE A; " + told(first, Mill.list("x", 1, 40));
      Mill.isRight("40 NAMES", forty + "END A.");
      for (String last : sorts) {
        Mill.isRight("39 NAMES and one", "MODULE A; " + told(first, Mill.list("x", 1, 39)) + told(last, "y") + "END A.");
        Mill.isWrong("one more than 40", 7, forty + told(last, "^y") + "END A.");
        Mill.isWrong("3 is looked at ahead of 7", 3, forty + told(last, "^x1") + "END A.");
        Mill.isWrong("3 is looked at ahead of 7", 3, forty + told(last, "^x40") + "END A.");
      }
    }
    Mill.isWrong("in one VAR", 7, "MODULE A; VAR " + Mill.list("x", 1, 40) + ", ^y, z: CHAR; END A.");
    Mill.isWrong("as it is read", 7, "MODULE A; VAR " + Mill.list("x", 1, 40) + ", ^y @");
    Mill.isRight("NAMES in procedures are not among them", "MODULE A; " + told("PROCEDURE", Mill.list("x", 1, 39))
        + "PROCEDURE p(" + Mill.list("g", 1, 8) + ": CHAR); VAR " + Mill.list("l", 1, 12) + ": CHAR; END p; END A.");
    Mill m = new Mill("imported ones are among them");
    m.right("DEFINITION MODULE D; VAR " + Mill.list("x", 1, 40) + ": CHAR; END D.");
    m.right("DEFINITION MODULE E; CONST e = 1; END E.");
    m.right("MODULE A; FROM D IMPORT " + Mill.list("x", 1, 40) + "; END A.");
    m.right("MODULE A; FROM E IMPORT e; FROM D IMPORT " + Mill.list("x", 1, 39) + "; END A.");
    m.wrong(7, "MODULE A; FROM E IMPORT e; FROM D IMPORT " + Mill.list("x", 1, 39) + ", ^x40; END A.");
    m.wrong(7, "MODULE A; FROM D IMPORT " + Mill.list("x", 1, 40) + "; FROM E IMPORT ^e; END A.");
    m.wrong(2, "MODULE A; FROM D IMPORT " + Mill.list("x", 1, 40) + "; FROM E IMPORT ^f; END A.");
    m.wrong(7, "MODULE A; FROM D IMPORT " + Mill.list("x", 1, 40) + "; CONST ^f = 1; END A.");
    m.wrong(3, "MODULE A; FROM D IMPORT " + Mill.list("x", 1, 40) + "; CONST ^x9 = 1; END A.");
  }

  private static void fortyOfADefinition() {
    Mill m = new Mill("those of its DEFINITION are among them");
    m.right("DEFINITION MODULE D; VAR " + Mill.list("x", 1, 40) + ": CHAR; END D.");
    m.right("IMPLEMENTATION MODULE D; END D.");
    m.wrong(7, "IMPLEMENTATION MODULE D; VAR ^y: CHAR; END D.");
    m.wrong(3, "IMPLEMENTATION MODULE D; VAR ^x40: CHAR; END D.");
    m.wrong(7, "DEFINITION MODULE E; VAR " + Mill.list("x", 1, 40) + ": CHAR; PROCEDURE ^p; END E.");
    m.right("DEFINITION MODULE E; VAR " + Mill.list("x", 1, 39) + ": CHAR; PROCEDURE p; END E.");
    m.right("IMPLEMENTATION MODULE E; PROCEDURE p; END p; END E.");
    m.wrong(7, "IMPLEMENTATION MODULE E; PROCEDURE p; END p; PROCEDURE ^q; END q; END E.");
    m.wrong(7, "IMPLEMENTATION MODULE E; PROCEDURE ^q; END q; PROCEDURE p; END p; END E.");
    m.right("DEFINITION MODULE F; VAR y: CHAR; END F.");
    m.wrong(7, "IMPLEMENTATION MODULE E; FROM F IMPORT ^y; PROCEDURE p; END p; END E.");
    m.right("DEFINITION MODULE G; FROM E IMPORT " + Mill.list("x", 1, 39) + "; CONST c = 1; END G.");
    m.right("IMPLEMENTATION MODULE G; VAR " + Mill.list("z", 1, 39) + ": CHAR; END G.");
    m.wrong(7, "IMPLEMENTATION MODULE G; VAR " + Mill.list("z", 1, 39) + ", ^y: CHAR; END G.");
  }

  private static void twentyNames() {
    for (int groups = 0; groups <= 8; groups++) {
      String head = "MODULE A; PROCEDURE p" + (groups > 0 ? "(" + Mill.list("g", 1, groups) + ": CHAR)" : "") + "; VAR ";
      String locals = Mill.list("l", 1, 20 - groups);
      Mill.isRight("20 in a procedure", head + locals + ": CHAR; END p; END A.");
      Mill.isWrong("one more", 7, head + locals + ", ^y: CHAR; END p; END A.");
      Mill.isWrong("one more", 7, head + locals + ": CHAR; VAR ^y: CHAR; END p; END A.");
      Mill.isWrong("3 ahead of 7", 3, head + locals + ", ^l1: CHAR; END p; END A.");
    }
    Mill.isRight("each procedure has its own", "MODULE A; PROCEDURE p; VAR " + Mill.list("l", 1, 20) + ": CHAR; END p; PROCEDURE q; VAR "
        + Mill.list("l", 1, 20) + ": CHAR; END q; VAR " + Mill.list("l", 1, 20) + ": CHAR; END A.");
  }

  private static void eightOfGroups() {
    String[] units = {"MODULE A; PROCEDURE p(%); END p; END A.", "DEFINITION MODULE A; PROCEDURE p(%); END A.",
        "MODULE A; PROCEDURE p(%): CHAR; END p; END A."};
    for (String unit : units) {
      Mill.isRight("8 in its GROUPS", unit.replace("%", Mill.list("g", 1, 8) + ": CHAR"));
      Mill.isRight("8 in its GROUPS", unit.replace("%", Mill.list("g", 1, 4) + ": CHAR; VAR " + Mill.list("h", 1, 4) + ": CHAR"));
      Mill.isWrong("one more", 7, unit.replace("%", Mill.list("g", 1, 8) + ", ^h: CHAR"));
      Mill.isWrong("one more", 7, unit.replace("%", Mill.list("g", 1, 8) + ": CHAR; ^h: CHAR"));
      Mill.isWrong("one more", 7, unit.replace("%", Mill.list("g", 1, 4) + ": CHAR; VAR " + Mill.list("h", 1, 4) + ", ^i: CHAR"));
      Mill.isWrong("3 ahead of 7", 3, unit.replace("%", Mill.list("g", 1, 8) + ", ^g3: CHAR"));
    }
  }

  private static String imports(int from, int to) {
    StringBuilder all = new StringBuilder();
    for (int i = from; i <= to; i++) {
      all.append("FROM D").append(i).append(" IMPORT c").append(i).append("; ");
    }
    return all.toString();
  }

  private static void eightUnits() {
    Mill m = new Mill("8 units that are imported");
    for (int i = 1; i <= 9; i++) {
      m.right("DEFINITION MODULE D" + i + "; CONST c" + i + " = 1; d" + i + " = 1; END D" + i + ".");
    }
    m.right("MODULE A; " + imports(1, 8) + "END A.");
    m.taken("unit(9, 2)", m.x.unit(9, 2), 8);
    m.wrong(7, "MODULE A; " + imports(1, 8) + "FROM ^D9 IMPORT c9; END A.");
    m.wrong(7, "MODULE A; " + imports(1, 8) + "FROM ^D9 @");
    m.wrong(2, "MODULE A; " + imports(1, 8) + "FROM ^D0 IMPORT c0; END A.");
    m.wrong(7, "DEFINITION MODULE B; " + imports(2, 9) + "FROM ^D1 IMPORT c1; END B.");
    for (int i = 1; i <= 8; i++) {
      m.right("MODULE A; " + imports(1, 8) + "FROM D" + i + " IMPORT d" + i + "; END A.");
      m.taken("unit(9, 2): each unit once", m.x.unit(9, 2), 8);
    }
    m.right("MODULE A; " + imports(1, 1) + "FROM D1 IMPORT d1; END A.");
    m.taken("unit(9, 2)", m.x.unit(9, 2), 1);
    m.right("MODULE A; END A.");
    m.taken("unit(9, 2)", m.x.unit(9, 2), 0);
    m.right("DEFINITION MODULE B; " + imports(1, 8) + "END B.");
    m.right("IMPLEMENTATION MODULE B; FROM D9 IMPORT c9; " + imports(1, 7) + "END B.");
    m.taken("unit(10, 2): not those of its DEFINITION", m.x.unit(10, 2), 8);
  }

  private static void thousandWords() {
    String[] units = {"MODULE A; VAR %; END A.", "DEFINITION MODULE A; VAR %; END A."};
    for (String unit : units) {
      Mill m = new Mill("1000 words of a unit");
      m.right(unit.replace("%", "a, b: ARRAY 500 OF CHAR"));
      m.taken("unit(0, 4)", m.x.unit(0, 4), 1000);
      m.wrong(7, unit.replace("%", "a, b: ARRAY 500 OF CHAR; ^c: CHAR"));
      m.wrong(7, unit.replace("%", "c: CHAR; a, ^b: ARRAY 500 OF CHAR"));
      m.right(unit.replace("%", "a: ARRAY 500 OF CHAR; b: ARRAY 499 OF PROCESS; c: INTEGER"));
      m.taken("unit(0, 4)", m.x.unit(0, 4), 1000);
      m.wrong(7, unit.replace("%", "a: ARRAY 500 OF CHAR; b: ARRAY 499 OF PROCESS; c, ^d, e: INTEGER"));
      m.wrong(7, unit.replace("%", "a: ARRAY 500 OF CHAR; b, ^c, d: ARRAY 251 OF INTEGER"));
      m.wrong(7, unit.replace("%", "a, b: ARRAY 500 OF CHAR; ^c: CHAR @"));
      m.wrong(1, unit.replace("%", "a, b: ARRAY 500 OF CHAR; c: ^@"));
      m.wrong(3, unit.replace("%", "a, b: ARRAY 500 OF CHAR; c, ^c: CHAR"));
      m.taken("unit(0, 4): nothing was changed", m.x.unit(0, 4), 1000);
    }
    Mill m = new Mill("with those of its DEFINITION");
    m.right("DEFINITION MODULE D; VAR a, b: ARRAY 499 OF CHAR; END D.");
    m.right("IMPLEMENTATION MODULE D; VAR c, d: CHAR; END D.");
    m.taken("unit(0, 4)", m.x.unit(0, 4), 1000);
    m.wrong(7, "IMPLEMENTATION MODULE D; VAR c, d, ^e: CHAR; END D.");
    m.wrong(7, "IMPLEMENTATION MODULE D; VAR ^c: ARRAY 3 OF CHAR; END D.");
    m.right("MODULE D; VAR c, d: ARRAY 500 OF CHAR; END D.");
    m.right("MODULE M; FROM D IMPORT a, b; VAR c, d: ARRAY 500 OF CHAR; END M.");
    m.taken("unit(1, 4): not what it imports", m.x.unit(1, 4), 1000);
    m.right("MODULE N; PROCEDURE p; VAR l: ARRAY 300 OF CHAR; END p; VAR c, d: ARRAY 500 OF CHAR; END N.");
    m.taken("unit(2, 4): nor what a procedure has", m.x.unit(2, 4), 1000);
  }

  private static void threeHundredWords() {
    String unit = "MODULE A; PROCEDURE p%; END p; END A.";
    Mill.isRight("300 words", unit.replace("%", "; VAR a: ARRAY 300 OF CHAR"));
    Mill.isWrong("301", 7, unit.replace("%", "; VAR ^a: ARRAY 301 OF CHAR"));
    Mill.isRight("299 and 1", unit.replace("%", "; VAR a: ARRAY 299 OF CHAR; b: PROCESS"));
    Mill.isWrong("299 and 2", 7, unit.replace("%", "; VAR a: ARRAY 299 OF CHAR; b, ^c: PROCESS"));
    Mill.isWrong("3 of 101", 7, unit.replace("%", "; VAR a, b, ^c: ARRAY 101 OF CHAR"));
    Mill.isRight("3 of 100", unit.replace("%", "; VAR a, b, c: ARRAY 100 OF CHAR"));
    Mill.isRight("with its GROUPS", unit.replace("%", "(x, y: CHAR); VAR a: ARRAY 298 OF CHAR"));
    Mill.isWrong("with its GROUPS", 7, unit.replace("%", "(x, y: CHAR); VAR ^a: ARRAY 299 OF CHAR"));
    Mill.isRight("all of GROUPS 1", unit.replace("%", "(VAR x, y: ARRAY 500 OF CHAR); VAR a: ARRAY 298 OF CHAR"));
    Mill.isWrong("all of GROUPS 1", 7, unit.replace("%", "(VAR x, y: ARRAY 500 OF CHAR); VAR ^a: ARRAY 299 OF CHAR"));
    Mill.isWrong("behind the TYPE", 7, unit.replace("%", "; VAR ^a: ARRAY 301 OF CHAR @"));
    Mill.isRight("each procedure has its own", "MODULE A; PROCEDURE p; VAR a: ARRAY 300 OF CHAR; END p; PROCEDURE q(x: CHAR); "
        + "VAR a: ARRAY 299 OF CHAR; END q; END A.");
  }

  /** Each of forty procedures is the one that is called, of a DEFINITION or not, however many texts came before. */
  private static void fortyProcedures() {
    Mill m = new Mill("forty procedures");
    StringBuilder heads = new StringBuilder();
    StringBuilder bodies = new StringBuilder();
    StringBuilder calls = new StringBuilder();
    StringBuilder due = new StringBuilder();
    for (int i = 1; i <= 39; i++) {
      heads.append("PROCEDURE p").append(i).append("; ");
      bodies.insert(0, "PROCEDURE p" + i + "; BEGIN WRITEINT(" + i + ") END p" + i + "; ");
      calls.append("p").append(i).append("; ");
      due.append(i);
    }
    m.right("DEFINITION MODULE D; " + heads + "END D.");
    m.right("IMPLEMENTATION MODULE D; PROCEDURE own; BEGIN WRITECHAR(\"o\") END own; " + bodies + "BEGIN own; " + calls + "END D.");
    m.right("IMPLEMENTATION MODULE D; PROCEDURE own; BEGIN WRITECHAR(\"o\") END own; " + bodies + "BEGIN own; " + calls + "END D.");
    m.right("MODULE M; FROM D IMPORT " + Mill.list("p", 1, 39) + "; PROCEDURE last; BEGIN WRITECHAR(\"l\") END last; BEGIN " + calls
        + "last END M.");
    m.taken("link(1)", m.x.link(1), 2);
    m.taken("start()", m.x.start(), 0);
    m.taken("run(20000)", m.x.run(20000), 1);
    m.dueText("OUT", m.out(), "o" + due + due + "l");
    Mill alone = new Mill("forty procedures of a MODULE");
    String text = "MODULE M; " + bodies + "PROCEDURE last; BEGIN WRITECHAR(\"l\") END last; BEGIN " + calls + "last END M.";
    alone.right("MODULE L; " + bodies + "END L.");
    alone.right(text);
    alone.right("MODULE N; " + bodies + "END N.");
    alone.right(text);
    alone.taken("link(1)", alone.x.link(1), 1);
    alone.x.start();
    alone.taken("run(20000)", alone.x.run(20000), 1);
    alone.dueText("OUT", alone.out(), due + "l");
  }

  /** A HEAD of a DEFINITION has nothing behind it: what comes is at the top again. */
  private static void headsOfADefinition() {
    Mill m = new Mill("behind a HEAD of a DEFINITION");
    m.right("DEFINITION MODULE D; PROCEDURE p(g: CHAR); VAR x: CHAR; VAR g: ARRAY 2 OF CHAR; PROCEDURE q; CONST c = 3; END D.");
    m.taken("unit(0, 4)", m.x.unit(0, 4), 3);
    m.right("MODULE M; FROM D IMPORT x, g, c, p; BEGIN g[c - 2] := x; p(x) END M.");
    m.wrong(2, "DEFINITION MODULE E; PROCEDURE p(g: INTEGER); VAR x: ARRAY ^g OF CHAR; END E.");
    m.wrong(3, "DEFINITION MODULE E; PROCEDURE p(g: CHAR); VAR x, ^x: CHAR; END E.");
    m.wrong(3, "DEFINITION MODULE E; PROCEDURE p(g: CHAR); VAR ^p: CHAR; END E.");
    // 6: TYPES, VAR, how many, and the result count; the NAMES of GROUPS do not.
    m.right("IMPLEMENTATION MODULE D; PROCEDURE p(h: CHAR); END p; PROCEDURE q(); END q; END D.");
    m.wrong(6, "IMPLEMENTATION MODULE D; PROCEDURE ^p(VAR g: CHAR); END p; PROCEDURE q; END q; END D.");
    m.wrong(6, "IMPLEMENTATION MODULE D; PROCEDURE ^p(g: INTEGER); END p; PROCEDURE q; END q; END D.");
    m.wrong(6, "IMPLEMENTATION MODULE D; PROCEDURE ^p(g, h: CHAR); END p; PROCEDURE q; END q; END D.");
    m.wrong(6, "IMPLEMENTATION MODULE D; PROCEDURE ^p; END p; PROCEDURE q; END q; END D.");
    m.wrong(6, "IMPLEMENTATION MODULE D; PROCEDURE ^p(g: CHAR): CHAR; END p; PROCEDURE q; END q; END D.");
    m.wrong(6, "IMPLEMENTATION MODULE D; PROCEDURE p(g: CHAR); END p; PROCEDURE ^q: CHAR; END q; END D.");
    m.wrong(6, "IMPLEMENTATION MODULE D; PROCEDURE p(g: CHAR); END p; END ^D.");
    m.wrong(6, "IMPLEMENTATION MODULE D; PROCEDURE q; END q; END ^D.");
    m.wrong(6, "IMPLEMENTATION MODULE D; PROCEDURE q; END q; END ^D @");
    m.wrong(3, "IMPLEMENTATION MODULE D; PROCEDURE q; END q; END ^E.");
    m.wrong(1, "IMPLEMENTATION MODULE D; PROCEDURE q; END q; END ^.");
  }

  private static void namesOfProcedures() {
    Mill m = new Mill("GROUPS and LOCALS hide what is at the top");
    m.right("MODULE A; CONST x = 1; y = 2; PROCEDURE p(x: CHAR); VAR y: CHAR; BEGIN x := y END p; PROCEDURE q; VAR z: ARRAY x + y OF CHAR; "
        + "END q; END A.");
    m.wrong(4, "MODULE A; CONST x = 1; PROCEDURE p(x: CHAR); VAR z: ARRAY ^x OF CHAR; END p; END A.");
    m.wrong(2, "MODULE A; PROCEDURE p(x: CHAR); END p; PROCEDURE q; BEGIN ^x := \"a\" END q; END A.");
    m.wrong(2, "MODULE A; PROCEDURE p; VAR x: CHAR; END p; BEGIN ^x := \"a\" END A.");
    m.wrong(2, "MODULE A; PROCEDURE p(VAR x: ARRAY ^p OF CHAR); END p; END A.");
    m.right("MODULE A; PROCEDURE p(n: INTEGER); BEGIN IF n > 0 THEN p(n - 1) END END p; END A.");
    m.wrong(2, "MODULE A; PROCEDURE p; BEGIN ^q END p; PROCEDURE q; BEGIN p END q; END A.");
    m.right("MODULE A; VAR p: CHAR; q: CHAR; PROCEDURE r(p, q: CHAR); VAR r: CHAR; BEGIN r := p END r; END A.");
  }

  private static void sixteenUnits() {
    Mill m = new Mill("16 NAMES of units");
    for (int i = 0; i < 16; i++) {
      m.denied("unit(" + i + ", 0)", unitOf(m, i), 2);
      m.right("MODULE U" + i + "; END U" + i + ".");
      m.taken("wrong(2)", m.x.wrong(2), i);
      m.taken("wrong(3)", m.x.wrong(3), i + 1);
    }
    m.wrong(8, "MODULE ^U16; END U16.");
    m.taken("wrong(3)", m.x.wrong(3), 16);
    m.wrong(8, "DEFINITION MODULE ^U16; END U16.");
    m.wrong(8, "IMPLEMENTATION MODULE ^U16; END U16.");
    m.wrong(8, "MODULE ^U16");
    m.wrong(8, "MODULE ^U16 @");
    m.wrong(1, "MODULE ^END");
    m.denied("unit(16, 0)", () -> m.x.unit(16, 0), 2);
    m.denied("unit(-1, 0)", () -> m.x.unit(-1, 0), 2);
    m.wrong(6, "IMPLEMENTATION MODULE ^U15; END U15.");
    m.right("DEFINITION MODULE U15; END U15.");
    m.taken("wrong(2)", m.x.wrong(2), 15);
    m.right("IMPLEMENTATION MODULE U15; END U15.");
    m.right("MODULE U0; END U0.");
    m.taken("wrong(2)", m.x.wrong(2), 0);
    m.taken("wrong(3)", m.x.wrong(3), 16);
  }

  private static java.util.function.LongSupplier unitOf(Mill m, int k) {
    return () -> m.x.unit(k, 0);
  }

  private static void unit(Mill m, int k, int... due) {
    for (int what = 0; what < 5; what++) {
      m.taken("unit(" + k + ", " + what + ")", m.x.unit(k, what), due[what]);
    }
  }

  private static void placeOfAnother() {
    Mill m = new Mill("a unit takes the place of what there was of its NAME and sort");
    m.right("MODULE A; VAR x: CHAR; END A.");
    unit(m, 0, 0, 2, 0, 0, 1);
    m.right("DEFINITION MODULE A; VAR x, y: CHAR; END A.");
    unit(m, 0, 1, 2, 0, 0, 1);
    m.taken("link(0): the MODULE is there still", m.x.link(0), 1);
    m.right("IMPLEMENTATION MODULE A; VAR z: CHAR; END A.");
    unit(m, 0, 1, 1, 0, 1, 3);
    m.denied("link(0): it is no more", () -> m.x.link(0), 2);
    m.right("MODULE A; END A.");
    unit(m, 0, 1, 2, 0, 0, 0);
    m.right("DEFINITION MODULE A; END A.");
    unit(m, 0, 2, 2, 0, 0, 0);
    m.right("MODULE A; VAR x: ARRAY 9 OF CHAR; END A.");
    unit(m, 0, 2, 2, 0, 0, 9);
    m.right("DEFINITION MODULE B; VAR b: ARRAY 4 OF CHAR; END B.");
    unit(m, 1, 3, 0, 0, 0, 4);
    m.denied("link(1): a DEFINITION alone", () -> m.x.link(1), 2);
    m.right("DEFINITION MODULE B; VAR b: CHAR; END B.");
    unit(m, 1, 4, 0, 0, 0, 1);
    m.denied("unit(1, 5)", () -> m.x.unit(1, 5), 1);
    m.denied("unit(1, -1)", () -> m.x.unit(1, -1), 1);
    m.denied("unit(2, 5)", () -> m.x.unit(2, 5), 2);
    m.denied("unit(2, -1)", () -> m.x.unit(2, -1), 2);
  }

  private static void keys() {
    Mill m = new Mill("a KEY is 1 more than the KEYS given so far");
    for (int key = 1; key <= 20; key++) {
      String name = key % 2 == 0 ? "A" : "B";
      m.right("DEFINITION MODULE " + name + "; END " + name + ".");
      m.taken("unit", m.x.unit(m.x.wrong(2), 0), key);
      m.wrong(3, "DEFINITION MODULE " + name + "; END ^C.");
      m.right("MODULE M; END M.");
    }
    m.taken("unit(0, 0)", m.x.unit(0, 0), 19);
    m.taken("unit(1, 0): a MODULE has none", m.x.unit(1, 0), 0);
  }

  /** What is WRONG changes nothing but the TAPE: neither units nor what is LINKED nor the machine. */
  private static void wrongChangesNothing() {
    Mill m = new Mill("nothing changes but the TAPE");
    m.right("DEFINITION MODULE D; VAR x: INTEGER; PROCEDURE p; END D.");
    m.right("IMPLEMENTATION MODULE D; PROCEDURE p; BEGIN INC(x) END p; BEGIN x := 5 END D.");
    m.right("MODULE M; FROM D IMPORT p, x; VAR f: INTEGER; BEGIN NEWFILE(\"f\", f); WRITEBYTE(f, 65); p; p; WRITEINT(x); p; WRITEINT(x) END M.");
    m.taken("link(1)", m.x.link(1), 2);
    m.taken("start()", m.x.start(), 2);
    m.taken("run(4)", m.x.run(4), 0);
    String[] wrong = {"DEFINITION MODULE D; VAR ^", "IMPLEMENTATION MODULE D; PROCEDURE p; BEGIN ^y END p; END D.",
        "MODULE M; BEGIN WRITEINT(9) END ^N.", "MODULE N; VAR n: CHAR; END ^M.", "^", "DEFINITION MODULE D; VAR a, b: CHAR; END D^",
        "IMPLEMENTATION MODULE D; PROCEDURE ^p(x: CHAR); END p; END D."};
    int[] what = {1, 2, 3, 3, 1, 1, 6};
    for (int i = 0; i < wrong.length; i++) {
      m.wrong(what[i], wrong[i]);
      unit(m, 0, 1, 1, 0, 1, 1);
      unit(m, 1, 0, 2, 1, 0, 1);
      m.denied("unit(2, 0)", () -> m.x.unit(2, 0), 2);
      m.taken("linked(0)", m.x.linked(0), 0);
      m.taken("linked(1)", m.x.linked(1), 1);
      m.due("STEPS", m.x.seen(0), 4);
      m.taken("word(0, 0)", m.x.word(0, 0), 5);
      m.taken("file(0, 0)", m.x.file(0, 0), 1);
      m.due("numbers that are OPEN", m.x.seen(7), 1);
    }
    m.taken("run(99)", m.x.run(99), 1);
    m.dueText("OUT", m.out(), "78");
    m.taken("link(1)", m.x.link(1), 2);
  }

  /** Sixteen units, each of which imports the next one. */
  private static void chainOfSixteen() {
    Mill m = new Mill("a chain of sixteen units");
    for (int i = 15; i >= 1; i--) {
      String from = i < 15 ? "FROM U" + (i + 1) + " IMPORT v" + (i + 1) + "; " : "";
      m.right("DEFINITION MODULE U" + i + "; " + (i % 2 == 0 ? from : "") + "VAR v" + i + ": INTEGER; END U" + i + ".");
      m.right("IMPLEMENTATION MODULE U" + i + "; " + (i % 2 == 1 ? from : "") + "VAR w: ARRAY " + i + " OF CHAR; BEGIN v" + i + " := "
          + i + "; w[" + (i - 1) + "] := CHR(64 + " + i + "); WRITECHAR(w[" + (i - 1) + "]) END U" + i + ".");
    }
    m.right("MODULE U0; FROM U1 IMPORT v1; BEGIN WRITEINT(v1) END U0.");
    m.taken("link(15)", m.x.link(15), 16);
    for (int i = 0; i < 16; i++) {
      m.taken("linked(" + i + ")", m.x.linked(i), i);
    }
    m.denied("linked(16)", () -> m.x.linked(16), 2);
    m.denied("linked(-1)", () -> m.x.linked(-1), 2);
    m.taken("start()", m.x.start(), 15 + 120);
    for (int turn = 0; turn < 2; turn++) {
      m.taken("run(99)", m.x.run(99), 1);
      m.dueText("OUT", m.out(), "ONMLKJIHGFEDCBA1");
      m.taken("word(0, 0)", m.x.word(0, 0), 15);
      m.taken("word(0, 15)", m.x.word(0, 15), 79);
      m.taken("word(14, 1)", m.x.word(14, 1), 65);
      m.denied("word(0, 16)", () -> m.x.word(0, 16), 2);
      m.denied("word(15, 0)", () -> m.x.word(15, 0), 2);
      m.denied("word(16, 0)", () -> m.x.word(16, 0), 2);
      m.denied("word(-1, 0)", () -> m.x.word(-1, 0), 2);
      m.denied("word(0, -1)", () -> m.x.word(0, -1), 2);
      m.taken("start() once more", m.x.start(), 15 + 120);
      m.taken("word(0, 0): all variables begin with 0", m.x.word(0, 0), 0);
      m.taken("word(0, 15)", m.x.word(0, 15), 0);
      m.taken("word(14, 0)", m.x.word(14, 0), 0);
      m.taken("word(14, 1)", m.x.word(14, 1), 0);
      m.due("OUT is empty", m.x.seen(1), 0);
    }
    m.right("DEFINITION MODULE U15; VAR v15: INTEGER; END U15.");
    m.taken("link(15): U14 has the KEY", m.x.link(15), -20 - 1);
    m.denied("start()", () -> m.x.start(), 4);
  }

  private static void lackingAndOld() {
    Mill m = new Mill("LACKING and OLD by number");
    for (int i = 0; i < 15; i++) {
      m.right("DEFINITION MODULE U" + i + "; CONST c" + i + " = 1; END U" + i + ".");
    }
    for (int i = 0; i < 15; i++) {
      m.right("MODULE M; FROM U" + i + " IMPORT c" + i + "; END M.");
      m.taken("link(15): unit " + i + " is LACKING", m.x.link(15), -2 - i);
      m.denied("linked(0)", () -> m.x.linked(0), 4);
    }
    m.right("DEFINITION MODULE U14; CONST c14 = 1; END U14.");
    m.taken("link(15): the MODULE has an OLD KEY", m.x.link(15), -35);
    Mill first = new Mill("OLD by number 0");
    first.right("MODULE M; END M.");
    first.right("DEFINITION MODULE A; CONST a = 1; END A.");
    first.right("MODULE M; FROM A IMPORT a; END M.");
    first.right("IMPLEMENTATION MODULE A; END A.");
    first.taken("link(0)", first.x.link(0), 2);
    first.right("DEFINITION MODULE A; CONST a = 1; END A.");
    first.taken("link(0)", first.x.link(0), -20);
    first.right("MODULE M; FROM A IMPORT a; END M.");
    first.taken("link(0): A's own KEY", first.x.link(0), -21);
    first.right("IMPLEMENTATION MODULE A; END A.");
    first.taken("link(0)", first.x.link(0), 2);

    Mill each = new Mill("LACKING is looked at each time, behind OLD");
    each.right("DEFINITION MODULE A; CONST a = 1; END A.");
    each.right("DEFINITION MODULE B; CONST b = 1; END B.");
    each.right("IMPLEMENTATION MODULE A; FROM B IMPORT b; END A.");
    each.right("IMPLEMENTATION MODULE B; END B.");
    each.right("MODULE M; FROM B IMPORT b; FROM A IMPORT a; END M.");
    each.taken("link(2)", each.x.link(2), 3);
    each.right("DEFINITION MODULE B; CONST b = 1; END B.");
    each.right("IMPLEMENTATION MODULE B; END B.");
    each.right("MODULE M; FROM B IMPORT b; FROM A IMPORT a; END M.");
    each.taken("link(2): B came already, but A has its OLD KEY", each.x.link(2), -20);
  }

  private static void oneAnother() {
    Mill m = new Mill("units that import one another");
    m.right("DEFINITION MODULE A; VAR a: INTEGER; END A.");
    m.right("DEFINITION MODULE B; VAR b: INTEGER; END B.");
    m.right("DEFINITION MODULE C; VAR c: INTEGER; END C.");
    m.right("IMPLEMENTATION MODULE A; FROM B IMPORT b; BEGIN WRITECHAR(\"A\") END A.");
    m.right("IMPLEMENTATION MODULE B; FROM C IMPORT c; BEGIN WRITECHAR(\"B\") END B.");
    m.right("IMPLEMENTATION MODULE C; FROM A IMPORT a; FROM B IMPORT b; BEGIN WRITECHAR(\"C\") END C.");
    String[] from = {"A", "B", "C"};
    String[] due = {"CBAM", "ACBM", "BACM"};
    for (int i = 0; i < 3; i++) {
      m.right("MODULE M; FROM " + from[i] + " IMPORT " + from[i].toLowerCase() + "; BEGIN WRITECHAR(\"M\") END M.");
      m.taken("link(3)", m.x.link(3), 4);
      m.x.start();
      m.taken("run(9)", m.x.run(9), 1);
      m.dueText("each unit once, behind those that it imports but for one on its way", m.out(), due[i]);
    }
  }
}
