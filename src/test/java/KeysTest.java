/** Promises 5, 6, 7: units, their keys, and what is LINKED. */
final class KeysTest {
  public static void main(String[] args) {
    unitAnswers();
    order();
    circles();
    procedures();
    old();
    lacking();
    asItWasCompiled();
    Mill.end();
  }

  private static void unit(Mill m, int k, int key, int sort, int imports, int ownKey, int words) {
    int[] due = {key, sort, imports, ownKey, words};
    for (int what = 0; what < due.length; what++) {
      m.taken("unit(" + k + ", " + what + ")", m.x.unit(k, what), due[what]);
    }
  }

  private static void unitAnswers() {
    Mill m = new Mill("unit()");
    m.right("DEFINITION MODULE D; VAR a: CHAR; b: ARRAY 3 OF CHAR; END D.");
    unit(m, 0, 1, 0, 0, 0, 4);
    m.right("DEFINITION MODULE E; FROM D IMPORT a; END E.");
    unit(m, 1, 2, 0, 0, 0, 0);
    m.right("IMPLEMENTATION MODULE D; VAR c: CHAR; PROCEDURE p(g: CHAR); VAR l: CHAR; END p; END D.");
    unit(m, 0, 1, 1, 0, 1, 5);
    m.right("IMPLEMENTATION MODULE E; FROM D IMPORT a, b; END E.");
    unit(m, 1, 2, 1, 1, 2, 0);
    m.right("DEFINITION MODULE D; VAR a: CHAR; END D.");
    unit(m, 0, 3, 1, 0, 1, 5);
    m.wrong(2, "DEFINITION MODULE D; VAR a: ARRAY ^a OF CHAR; END D.");
    unit(m, 0, 3, 1, 0, 1, 5);
    m.right("IMPLEMENTATION MODULE D; END D.");
    unit(m, 0, 3, 1, 0, 3, 1);
    m.right("MODULE D; VAR x: ARRAY 7 OF CHAR; END D.");
    unit(m, 0, 3, 2, 0, 0, 7);
    m.right("MODULE M; FROM D IMPORT a; VAR x: CHAR; END M.");
    unit(m, 2, 0, 2, 1, 0, 1);
    m.right("DEFINITION MODULE M; VAR x, y, z: CHAR; END M.");
    unit(m, 2, 4, 2, 1, 0, 1);
    m.refused("unit(3, 0)", m.x.unit(3, 0), 2);
    m.refused("unit(2, 5)", m.x.unit(2, 5), 1);
    m.refused("unit(3, 5)", m.x.unit(3, 5), 2);
  }

  /** A DEFINITION and its empty IMPLEMENTATION, each with what it imports. */
  private static void both(Mill m, String name, String definition, String implementation) {
    String lower = name.toLowerCase();
    m.right("DEFINITION MODULE " + name + "; " + definition + "VAR " + lower + ": INTEGER; END " + name + ".");
    m.right("IMPLEMENTATION MODULE " + name + "; " + implementation + "BEGIN " + lower + " := 1; WRITECHAR(\"" + name
        + "\") END " + name + ".");
  }

  private static void linked(Mill m, int... due) {
    for (int i = 0; i < due.length; i++) {
      m.taken("linked(" + i + ")", m.x.linked(i), due[i]);
    }
    m.refused("linked(" + due.length + ")", m.x.linked(due.length), 2);
    m.refused("linked(-1)", m.x.linked(-1), 2);
  }

  private static void order() {
    Mill m = new Mill("the order of the loader");
    both(m, "A", "", "");
    both(m, "B", "FROM A IMPORT a; ", "");
    both(m, "C", "", "FROM B IMPORT b; ");
    both(m, "D", "FROM C IMPORT c; ", "FROM A IMPORT a; ");
    m.right("MODULE M; FROM D IMPORT d; FROM A IMPORT a; BEGIN WRITECHAR(\"M\") END M.");
    m.taken("link(4)", m.x.link(4), 5);
    linked(m, 0, 1, 2, 3, 4);
    m.taken("start()", m.x.start(), 4);
    m.taken("run(99)", m.x.run(99), 1);
    m.dueText("BODIES in order", m.out(), "ABCDM");
    m.taken("word(3, 0)", m.x.word(3, 0), 1);
    m.refused("word(4, 0)", m.x.word(4, 0), 2);
    m.right("MODULE N; FROM C IMPORT c; BEGIN WRITECHAR(\"N\") END N.");
    m.taken("link(5)", m.x.link(5), 4);
    linked(m, 0, 1, 2, 5);
    m.refused("run(1): the machine is not begun", m.x.run(1), 4);
    m.taken("start()", m.x.start(), 3);
    m.refused("word(3, 0) of a unit that is not LINKED", m.x.word(3, 0), 2);
    m.refused("word(-1, 0)", m.x.word(-1, 0), 2);
    m.refused("word(99, 0)", m.x.word(99, 0), 2);
    m.refused("word(0, 1)", m.x.word(0, 1), 2);
    m.refused("word(0, -1)", m.x.word(0, -1), 2);
    m.refused("link(0)", m.x.link(0), 2);
    m.refused("link(6)", m.x.link(6), 2);
    m.refused("link(-1)", m.x.link(-1), 2);
    m.taken("a refused link() leaves the machine", m.x.run(99), 1);
    linked(m, 0, 1, 2, 5);

    Mill mixed = new Mill("its DEFINITION's imports come first");
    both(mixed, "X", "", "");
    both(mixed, "Y", "", "");
    both(mixed, "Z", "FROM Y IMPORT y; ", "FROM X IMPORT x; ");
    mixed.right("MODULE M; FROM Z IMPORT z; END M.");
    mixed.taken("link(3)", mixed.x.link(3), 4);
    linked(mixed, 1, 0, 2, 3);
  }

  private static void circles() {
    Mill m = new Mill("units that import one another");
    m.right("DEFINITION MODULE A; VAR a: INTEGER; PROCEDURE p(n: INTEGER); END A.");
    m.right("DEFINITION MODULE B; VAR b: INTEGER; PROCEDURE q(n: INTEGER); END B.");
    m.right("IMPLEMENTATION MODULE A; FROM B IMPORT b, q; PROCEDURE p(n: INTEGER); BEGIN WRITECHAR(\"p\"); "
        + "IF n > 0 THEN q(n - 1) END END p; BEGIN a := b + 1 END A.");
    m.right("IMPLEMENTATION MODULE B; FROM A IMPORT a, p; PROCEDURE q(n: INTEGER); BEGIN WRITECHAR(\"q\"); "
        + "IF n > 0 THEN p(n - 1) END END q; BEGIN b := a + 5 END B.");
    m.right("MODULE M; FROM A IMPORT a, p; FROM B IMPORT b; BEGIN p(3); WRITEINT(a); WRITEINT(b) END M.");
    m.taken("link(2)", m.x.link(2), 3);
    linked(m, 1, 0, 2);
    m.taken("start()", m.x.start(), 2);
    m.taken("run(99)", m.x.run(99), 1);
    m.dueText("OUT", m.out(), "pqpq65");
  }

  /** Procedures of the DEFINITION and others, told in another order. */
  private static void procedures() {
    Mill m = new Mill("procedures of a DEFINITION");
    m.right("DEFINITION MODULE D; PROCEDURE p(): INTEGER; CONST c = 1; PROCEDURE q(): INTEGER; END D.");
    m.right("IMPLEMENTATION MODULE D; PROCEDURE r(): INTEGER; BEGIN RETURN 1 END r; PROCEDURE q(): INTEGER; BEGIN RETURN 2 END q; "
        + "PROCEDURE s(): INTEGER; BEGIN RETURN 4 END s; PROCEDURE p(): INTEGER; BEGIN RETURN r() * 1000 + q() * 100 + s() * 10 END p; "
        + "BEGIN WRITEINT(p()) END D.");
    m.right("MODULE M; FROM D IMPORT q, p; PROCEDURE r; BEGIN WRITECHAR(\"r\") END r; BEGIN WRITEINT(q()); r; WRITEINT(p()) END M.");
    m.taken("link(1)", m.x.link(1), 2);
    m.taken("start()", m.x.start(), 0);
    m.taken("run(99)", m.x.run(99), 1);
    m.dueText("OUT", m.out(), "12402r1240");
  }

  private static void old() {
    Mill m = new Mill("OLD");
    both(m, "A", "", "");
    both(m, "B", "FROM A IMPORT a; ", "");
    m.right("MODULE M; FROM B IMPORT b; END M.");
    m.taken("link(2)", m.x.link(2), 3);
    m.right("DEFINITION MODULE A; VAR a: INTEGER; END A.");
    m.taken("linked(0): a DEFINITION alone changes nothing of it", m.x.linked(0), 0);
    m.taken("link(2): B's DEFINITION has an OLD KEY", m.x.link(2), -21);
    m.refused("linked(0): nothing is LINKED", m.x.linked(0), 4);
    m.refused("start()", m.x.start(), 4);
    m.right("DEFINITION MODULE B; FROM A IMPORT a; VAR b: INTEGER; END B.");
    m.taken("link(2): M's own import comes ahead", m.x.link(2), -22);
    m.right("MODULE M; FROM B IMPORT b; END M.");
    m.taken("link(2): B's own KEY is OLD, ahead of its imports", m.x.link(2), -21);
    m.right("IMPLEMENTATION MODULE B; END B.");
    m.taken("link(2): A's own KEY is OLD", m.x.link(2), -20);
    m.right("IMPLEMENTATION MODULE A; END A.");
    m.taken("link(2)", m.x.link(2), 3);
    m.right("DEFINITION MODULE A; VAR a: INTEGER; END A.");
    m.right("IMPLEMENTATION MODULE A; FROM B IMPORT b; END A.");
    m.taken("link(2): the KEY that B's DEFINITION has", m.x.link(2), -21);
  }

  private static void lacking() {
    Mill m = new Mill("LACKING");
    m.right("DEFINITION MODULE A; CONST c = 1; END A.");
    both(m, "B", "FROM A IMPORT c; ", "");
    m.right("MODULE M; FROM B IMPORT b; END M.");
    m.taken("link(2)", m.x.link(2), -2);
    m.refused("linked(0)", m.x.linked(0), 4);
    m.right("MODULE A; END A.");
    m.taken("link(2): a MODULE is no IMPLEMENTATION", m.x.link(2), -2);
    m.taken("link(0)", m.x.link(0), 1);
    m.right("IMPLEMENTATION MODULE A; END A.");
    m.taken("link(2)", m.x.link(2), 3);
    m.right("DEFINITION MODULE A; CONST c = 1; END A.");
    m.right("MODULE A; END A.");
    m.taken("link(2): OLD is ahead of LACKING", m.x.link(2), -21);

    Mill late = new Mill("nothing is LINKED, though some units came");
    both(late, "A", "", "");
    late.right("DEFINITION MODULE B; VAR b: CHAR; END B.");
    late.right("MODULE M; FROM A IMPORT a; FROM B IMPORT b; END M.");
    late.taken("link(2)", late.x.link(2), -3);
    late.refused("linked(0)", late.x.linked(0), 4);
    late.refused("start()", late.x.start(), 4);

    Mill own = new Mill("the MODULE from which the loader goes is LACKING, too");
    own.right("DEFINITION MODULE M; VAR x: CHAR; END M.");
    own.right("DEFINITION MODULE A; VAR a: CHAR; END A.");
    own.right("IMPLEMENTATION MODULE A; FROM M IMPORT x; END A.");
    own.right("MODULE M; FROM A IMPORT a; END M.");
    own.taken("link(0)", own.x.link(0), -2);
    own.right("MODULE N; FROM A IMPORT a; END N.");
    own.right("DEFINITION MODULE M; VAR x: CHAR; END M.");
    own.taken("link(2)", own.x.link(2), -21);
  }

  private static void asItWasCompiled() {
    Mill m = new Mill("as it was compiled then");
    both(m, "A", "", "");
    m.right("MODULE M; FROM A IMPORT a; BEGIN WRITEINT(a); WRITEINT(2) END M.");
    m.taken("link(1)", m.x.link(1), 2);
    m.right("MODULE M; VAR x: CHAR; BEGIN WRITECHAR(\"!\") END M.");
    m.right("DEFINITION MODULE A; VAR x, y, z: CHAR; END A.");
    m.taken("start()", m.x.start(), 1);
    m.taken("run(1)", m.x.run(1), 0);
    m.right("IMPLEMENTATION MODULE A; BEGIN HALT END A.");
    m.wrong(2, "MODULE M; BEGIN ^y END M.");
    m.taken("run(9)", m.x.run(9), 1);
    m.dueText("OUT", m.out(), "A12");
    m.refused("word(1, 0)", m.x.word(1, 0), 2);
    m.taken("word(0, 0)", m.x.word(0, 0), 1);
    m.taken("link(1)", m.x.link(1), 1);
    m.taken("start()", m.x.start(), 1);
    m.taken("run(9)", m.x.run(9), 1);
    m.dueText("OUT", m.out(), "!");
  }
}
