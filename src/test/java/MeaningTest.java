/** What NAMES mean: promise 3, WRONG 2 and 3. */
final class MeaningTest {
  public static void main(String[] args) {
    nothing();
    imports();
    fromWhereOn();
    twice();
    afterWrong();
    hidden();
    ends();
    Mill.end();
  }

  private static void nothing() {
    Mill m = new Mill("NAMES that mean nothing");
    m.wrong(2, Mill.in("^x := 1"));
    m.wrong(2, Mill.in("^x"));
    m.wrong(2, Mill.in("^x(1)"));
    m.wrong(2, Mill.in("i := ^x"));
    m.wrong(2, Mill.in("i := 1 + ^x * 2"));
    m.wrong(2, Mill.in("i := TRUE + ^x"));
    m.wrong(2, Mill.in("i := ^x(1)"));
    m.wrong(2, Mill.in("a[^x] := 1"));
    m.wrong(2, Mill.in("INC(^x)"));
    m.wrong(2, Mill.in("INC(i, ^x)"));
    m.wrong(2, Mill.in("FOR ^x := 1 TO 2 DO END"));
    m.wrong(2, Mill.in("NEWPROCESS(^x, 20, p)"));
    m.wrong(2, Mill.in("i := ^M"));
    m.wrong(2, "MODULE A; CONST c = ^d; d = 1; END A.");
    m.wrong(2, "MODULE A; VAR x: ARRAY ^n OF CHAR; END A.");
    m.wrong(2, "MODULE A; PROCEDURE p; VAR x: CHAR; END p; BEGIN ^x := \"a\" END A.");
    m.wrong(2, "MODULE A; PROCEDURE p(x: CHAR); END p; VAR y: ARRAY ORD(^x) OF CHAR; END A.");
  }

  private static void imports() {
    Mill m = new Mill("IMPORTS");
    m.wrong(2, "MODULE A; FROM ^B IMPORT c; END A.");
    m.right("MODULE B; VAR c: CHAR; END B.");
    m.wrong(2, "MODULE A; FROM ^B IMPORT c; END A.");
    m.right("DEFINITION MODULE D; CONST c = 3; VAR x: CHAR; PROCEDURE p(y: CHAR); END D.");
    m.right("DEFINITION MODULE E; FROM D IMPORT c; VAR z: ARRAY c OF CHAR; END E.");
    m.right("MODULE A; FROM D IMPORT c, x, p; FROM E IMPORT z; BEGIN z[c - 1] := x; p(x) END A.");
    m.wrong(2, "MODULE A; FROM D IMPORT ^y; END A.");
    m.wrong(2, "MODULE A; FROM D IMPORT ^D; END A.");
    m.wrong(2, "MODULE A; FROM D IMPORT ^ORD; END A.");
    m.wrong(2, "MODULE A; FROM E IMPORT z, ^c; END A.");
    m.wrong(2, "MODULE A; FROM E IMPORT z; VAR y: ARRAY ^c OF CHAR; END A.");
    m.wrong(2, "MODULE D; FROM ^D IMPORT c; END D.");
    m.wrong(2, "DEFINITION MODULE D; FROM ^D IMPORT c; END D.");
    m.wrong(2, "IMPLEMENTATION MODULE D; FROM ^D IMPORT c; PROCEDURE p(y: CHAR); END p; END D.");
    m.wrong(2, "IMPLEMENTATION MODULE E; BEGIN z[^c] := \"a\" END E.");
    m.wrong(3, "MODULE A; FROM D IMPORT c, ^c; END A.");
    m.wrong(3, "MODULE A; FROM D IMPORT c; FROM D IMPORT ^c; END A.");
    m.wrong(2, "MODULE A; FROM D IMPORT c; FROM E IMPORT ^c; END A.");
    m.wrong(3, "MODULE A; FROM D IMPORT c; VAR x, ^c: CHAR; END A.");
    m.wrong(3, "IMPLEMENTATION MODULE E; FROM D IMPORT x; VAR ^z: CHAR; END E.");
    m.right("DEFINITION MODULE F; VAR z: CHAR; END F.");
    m.wrong(3, "IMPLEMENTATION MODULE E; FROM F IMPORT ^z; END E.");
    m.right("IMPLEMENTATION MODULE E; FROM D IMPORT c; BEGIN z[c - 1] := \"a\" END E.");
  }

  private static void fromWhereOn() {
    Mill m = new Mill("from where on they mean something");
    m.wrong(2, "MODULE A; CONST c = ^c; END A.");
    m.wrong(2, "MODULE A; CONST c = 1; VAR a, b: ARRAY ^a OF CHAR; END A.");
    m.wrong(2, "MODULE A; PROCEDURE p; BEGIN ^q END p; PROCEDURE q; END q; END A.");
    m.right("MODULE A; PROCEDURE p; BEGIN p END p; END A.");
    m.wrong(2, "MODULE A; PROCEDURE f(VAR x: ARRAY ^f() OF CHAR): INTEGER; END f; END A.");
    m.right("MODULE A; CONST n = 3; PROCEDURE p; VAR n: ARRAY n OF CHAR; BEGIN n[2] := \"a\" END p; END A.");
    m.wrong(4, "MODULE A; CONST n = 3; PROCEDURE p(n: INTEGER; VAR a: ARRAY ^n OF CHAR); END p; END A.");
    m.wrong(4, "MODULE A; CONST n = 3; PROCEDURE p; VAR n: INTEGER; a: ARRAY ^n OF CHAR; END p; END A.");
    m.right("MODULE A; CONST ORD = ORD(\"a\"); VAR x: ARRAY ORD OF CHAR; END A.");
    m.right("DEFINITION MODULE D; PROCEDURE p; PROCEDURE q; END D.");
    m.right("IMPLEMENTATION MODULE D; PROCEDURE p; BEGIN q END p; PROCEDURE q; BEGIN p END q; BEGIN p END D.");
  }

  private static void twice() {
    Mill m = new Mill("NAMES that there are already");
    m.wrong(3, "MODULE A; CONST c = 1; ^c = 2; END A.");
    m.wrong(3, "MODULE A; CONST c = 1; VAR x, ^c: CHAR; END A.");
    m.wrong(3, "MODULE A; VAR x: CHAR; ^x: CHAR; END A.");
    m.wrong(3, "MODULE A; VAR x: CHAR; PROCEDURE ^x; END x; END A.");
    m.wrong(3, "MODULE A; PROCEDURE p; END p; PROCEDURE ^p; END p; END A.");
    m.wrong(3, "MODULE A; PROCEDURE p; END p; CONST ^p = 1; END A.");
    m.wrong(3, "MODULE A; PROCEDURE p(x, ^x: CHAR); END p; END A.");
    m.wrong(3, "MODULE A; PROCEDURE p(x: CHAR; VAR ^x: CHAR); END p; END A.");
    m.wrong(3, "MODULE A; PROCEDURE p(x: CHAR); VAR ^x: CHAR; END p; END A.");
    m.wrong(3, "MODULE A; PROCEDURE p; VAR x: CHAR; VAR y, ^x: CHAR; END p; END A.");
    m.wrong(3, "DEFINITION MODULE A; PROCEDURE p(x, ^x: CHAR); END A.");
    m.wrong(3, "DEFINITION MODULE A; PROCEDURE p; PROCEDURE ^p; END A.");
    m.right("MODULE A; VAR A: CHAR; PROCEDURE p(p: CHAR); VAR A: CHAR; END p; END A.");
    m.right("DEFINITION MODULE D; CONST c = 1; VAR x: CHAR; PROCEDURE p; END D.");
    m.wrong(3, "IMPLEMENTATION MODULE D; CONST ^c = 1; PROCEDURE p; END p; END D.");
    m.wrong(3, "IMPLEMENTATION MODULE D; VAR ^x: CHAR; PROCEDURE p; END p; END D.");
    m.wrong(3, "IMPLEMENTATION MODULE D; VAR ^p: CHAR; END D.");
    m.wrong(3, "IMPLEMENTATION MODULE D; PROCEDURE ^c; END c; END D.");
    m.wrong(3, "IMPLEMENTATION MODULE D; PROCEDURE p; END p; PROCEDURE ^p; END p; END D.");
    m.right("IMPLEMENTATION MODULE D; PROCEDURE p; VAR c, x: CHAR; END p; END D.");
    m.right("MODULE D; CONST x = 1; VAR c, p: CHAR; END D.");
    m.wrong(1, "IMPLEMENTATION MODULE D; ^;");
    m.wrong(3, "MODULE B; VAR x, y, z: CHAR; PROCEDURE ^x; END x; END B.");
    m.wrong(3, "MODULE B; VAR x, y, z: CHAR; PROCEDURE ^z; END z; END B.");
    m.wrong(1, "IMPLEMENTATION MODULE D; ^;");
    m.right("IMPLEMENTATION MODULE D; VAR a, b: CHAR; PROCEDURE p; END p; CONST d = 1; END D.");
  }

  /** Nothing of a text that was WRONG is there in the next one. */
  private static void afterWrong() {
    Mill m = new Mill("behind a text that was WRONG");
    m.wrong(1, "MODULE A; CONST k = 1; VAR v: CHAR; PROCEDURE p(g: INTEGER); VAR x: INTEGER; BEGIN x := ^; END p; END A.");
    m.wrong(2, "MODULE A; CONST c = ^x; END A.");
    m.wrong(1, "MODULE A; PROCEDURE p(g: INTEGER); VAR x: INTEGER; BEGIN x := ^; END p; END A.");
    m.wrong(2, "MODULE A; BEGIN ^g := 1 END A.");
    m.wrong(2, "MODULE A; BEGIN ^k END A.");
    m.right("MODULE A; VAR k, v, p, g, x: INTEGER; BEGIN g := 1 END A.");
    m.right("DEFINITION MODULE D; VAR x: INTEGER; END D.");
    m.right("MODULE B; FROM D IMPORT x; END B.");
    m.right("DEFINITION MODULE E; CONST c = 1; END E.");
    m.right("MODULE B; FROM E IMPORT c; END B.");
    m.wrong(1, "MODULE B; BEGIN LOOP FOR ^; END B.");
    m.wrong(4, "MODULE B; BEGIN ^EXIT END B.");
    m.wrong(1, "MODULE B; PROCEDURE f: CHAR; BEGIN RETURN -^");
    m.wrong(4, "MODULE B; BEGIN ^RETURN \"a\" END B.");
  }

  private static void hidden() {
    Mill m = new Mill("what is hidden");
    m.ends("MODULE A; VAR x: INTEGER; PROCEDURE p; VAR x: INTEGER; BEGIN x := 5; WRITEINT(x) END p; "
        + "BEGIN x := 7; p; WRITEINT(x) END A.", 1, "57");
    m.ends("MODULE A; PROCEDURE WRITEINT(x: INTEGER); BEGIN WRITECHAR(\"!\") END WRITEINT; BEGIN WRITEINT(5) END A.", 1,
        "!");
    m.wrong(4, "MODULE A; VAR ORD: INTEGER; BEGIN ORD := ^ORD(\"a\") END A.");
    m.wrong(4, "MODULE A; PROCEDURE p; VAR p: INTEGER; BEGIN ^p END p; END A.");
    m.wrong(4, "MODULE A; PROCEDURE ORD(x: CHAR): INTEGER; BEGIN RETURN 1 END ORD; CONST c = ^ORD(\"a\"); END A.");
  }

  private static void ends() {
    Mill m = new Mill("NAMES behind END");
    m.wrong(3, "MODULE A; END ^B.");
    m.wrong(3, "DEFINITION MODULE A; END ^B.");
    m.wrong(3, "MODULE A; PROCEDURE p; BEGIN END ^q; END A.");
    m.wrong(3, "MODULE A; PROCEDURE p; END ^A; END A.");
    m.right("DEFINITION MODULE A; PROCEDURE p; END A.");
    m.wrong(3, "IMPLEMENTATION MODULE A; END ^B.");
    m.wrong(6, "IMPLEMENTATION MODULE A; END ^A.");
  }
}
