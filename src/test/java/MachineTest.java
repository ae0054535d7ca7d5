/** Promises 8, 9, 14: what the machine does, its STEPS and TRAPS. */
final class MachineTest {
  public static void main(String[] args) {
    numbers();
    relations();
    order();
    control();
    procedures();
    traps();
    steps();
    running();
    words();
    Mill.end();
  }

  private static void does(String statements, int answer, String written) {
    Mill.does("what it does", statements, answer, written);
  }

  private static void numbers() {
    does("WRITEINT(0); WRITELN; WRITEINT(-5); WRITEINT(32767); WRITEINT(-32767 - 1); WRITEINT(100); WRITEINT(10)", 1,
        "0\n-532767-3276810010");
    does("WRITEINT(7 DIV 2); WRITEINT(-7 DIV 2); WRITEINT((-7) DIV 2); WRITEINT((-7) MOD 2); WRITEINT(-(7 MOD 4))", 1,
        "3-3-41-3");
    does("WRITEINT(2 + 3 * 4 - 10 DIV 3); WRITEINT(-2 + 3); WRITEINT(1 - 2 - 3); WRITEINT(20 DIV 2 * 3 MOD 7)", 1, "111-42");
    does("WRITEINT(ORD(\"a\")); WRITECHAR(CHR(66)); WRITEINT(ABS(-3)); WRITEINT(ABS(3)); WRITEINT(ORD(ODD(-3))); "
        + "WRITEINT(ORD(ODD(4))); WRITEINT(ORD(TRUE))", 1, "97B33101");
    does("IF (1 < 2) AND (\"a\" <= \"b\") AND (FALSE # TRUE) AND NOT (2 > 3) AND (3 >= 3) THEN WRITECHAR(\"y\") END", 1, "y");
    does("b := TRUE AND (i = 0) AND TRUE; WRITEINT(ORD(b)); b := FALSE OR FALSE OR (i = 1); WRITEINT(ORD(b)); a[1] := 5; "
        + "b := (i = 1) OR TRUE AND b; WRITEINT(a[1] + ORD(b)); b := NOT b; WRITEINT(ORD(b))", 1, "1051");
    does("b := yes; IF b = TRUE THEN WRITEINT(k) END; c := \"x\"; IF c = \"x\" THEN WRITECHAR(c) END", 1, "7x");
    does("i := 5; INC(i); INC(i, 10); DEC(i); DEC(i, -3); WRITEINT(i); INC(a[i - 14], i); WRITEINT(a[4])", 1, "1818");
    does("WRITESTRING(\"ab c\"); WRITELN; WRITECHAR(\"'\")", 1, "ab c\n'");
  }

  /** Each relation of a lower, the same and a higher one, as the BOOLEAN that it makes. */
  private static void relations() {
    String[] signs = {"=", "#", "<", "<=", ">", ">="};
    String[] due = {"010", "101", "100", "110", "001", "011"};
    for (int s = 0; s < signs.length; s++) {
      StringBuilder numbers = new StringBuilder("j := 5; ");
      StringBuilder letters = new StringBuilder("c := \"n\"; ");
      for (int i = 4; i <= 6; i++) {
        numbers.append("b := ").append(i).append(signs[s]).append("j; WRITEINT(ORD(b)); ");
        letters.append("b := \"").append((char) ('i' + i)).append("\"").append(signs[s]).append("c; WRITEINT(ORD(b)); ");
      }
      does(numbers.toString(), 1, due[s]);
      does(letters.toString(), 1, due[s]);
    }
    does("b := TRUE = b; WRITEINT(ORD(b)); b := TRUE # b; WRITEINT(ORD(b)); b := b = b; WRITEINT(ORD(b))", 1, "011");
  }

  private static String withTrace(String statements) {
    return "MODULE M; VAR i: INTEGER; a: ARRAY 9 OF INTEGER; b: BOOLEAN; "
        + "PROCEDURE t(n: INTEGER): INTEGER; BEGIN WRITEINT(n); RETURN n END t; "
        + "PROCEDURE u(n: INTEGER; r: BOOLEAN): BOOLEAN; BEGIN WRITEINT(n); RETURN r END u; "
        + "PROCEDURE w(VAR x: INTEGER; y: INTEGER; VAR z: INTEGER); BEGIN x := y; z := y + 1 END w; BEGIN "
        + statements + " END M.";
  }

  private static void order() {
    Mill m = new Mill("the order of things");
    m.ends(withTrace("i := t(1) + t(2) * t(3) - t(4)"), 1, "1234");
    m.ends(withTrace("a[t(1)] := t(2)"), 1, "12");
    m.ends(withTrace("b := u(1, FALSE) AND u(2, TRUE) OR u(3, TRUE) OR u(4, TRUE)"), 1, "13");
    m.ends(withTrace("b := u(1, TRUE) AND u(2, FALSE) AND u(3, TRUE)"), 1, "12");
    m.ends(withTrace("w(a[t(1)], t(2), a[t(3)]); WRITEINT(a[1]); WRITEINT(a[3])"), 1, "12323");
    m.ends(withTrace("i := 1; w(a[i], 5, i); WRITEINT(a[1]); WRITEINT(i)"), 1, "56");
    m.ends(withTrace("FOR i := t(1) TO t(3) DO WRITECHAR(\".\") END"), 1, "13...");
    m.ends(withTrace("i := 5; FOR i := i TO i + 1 DO WRITEINT(i) END"), 1, "56");
    m.ends(withTrace("INC(a[t(1)], t(2)); DEC(a[t(3)], t(4))"), 1, "1234");
    m.ends(withTrace("b := t(1) = t(2)"), 1, "12");
    m.ends(withTrace("a[t(20)] := t(2)"), 13, "20");
  }

  private static void control() {
    does("i := 3; IF i = 1 THEN WRITEINT(1) ELSIF i = 3 THEN WRITEINT(3) ELSIF i = 3 THEN WRITEINT(4) ELSE WRITEINT(5) END", 1,
        "3");
    does("IF FALSE THEN WRITEINT(1) ELSIF FALSE THEN WRITEINT(3) ELSE WRITEINT(5) END; IF FALSE THEN HALT END; HALT; WRITEINT(6)",
        1, "5");
    does("FOR i := 0 TO 3 DO IF i = 0 THEN WRITEINT(0) ELSIF i = 1 THEN WRITEINT(1) ELSIF i = 2 THEN WRITEINT(2) ELSE WRITEINT(3) END; "
        + "WRITECHAR(\",\") END", 1, "0,1,2,3,");
    does("FOR i := 1 TO 3 DO FOR j := 1 TO 1 DO END; WRITEINT(i) END; WRITEINT(i)", 1, "1234");
    does("FOR i := 1 TO 3 DO FOR j := 9 TO 1 DO END; WRITEINT(i) END; WRITEINT(i)", 1, "1234");
    does("FOR i := 1 TO 3 DO LOOP FOR j := 1 TO 9 DO END; EXIT END; WRITEINT(i) END", 1, "123");
    does("FOR i := 1 TO 3 DO LOOP FOR j := 1 TO 9 DO LOOP EXIT END; EXIT END END; WRITEINT(i) END", 1, "123");
    does("FOR i := 1 TO 3 DO FOR j := 32767 TO 32767 DO END; WRITEINT(i) END", 1, "123");
    does("WHILE i < 3 DO WRITEINT(i); INC(i) END; WRITEINT(i)", 1, "0123");
    does("REPEAT WRITEINT(i); INC(i) UNTIL i >= 3; REPEAT WRITEINT(i) UNTIL TRUE", 1, "0123");
    does("LOOP INC(i); LOOP INC(j); IF j > i THEN EXIT END END; WRITEINT(j); IF i = 4 THEN EXIT END END", 1, "2345");
    does("FOR i := 1 TO 3 DO WRITEINT(i) END; WRITEINT(i)", 1, "1234");
    does("FOR i := 3 TO 1 DO WRITEINT(i) END; WRITEINT(i)", 1, "3");
    does("FOR i := 3 TO 1 BY -1 DO WRITEINT(i) END; WRITEINT(i)", 1, "3210");
    does("FOR i := 1 TO 8 BY 3 DO WRITEINT(i) END; WRITEINT(i)", 1, "14710");
    does("FOR i := 1 TO 3 BY -1 DO WRITEINT(i) END; WRITEINT(i)", 1, "1");
    does("FOR i := 32766 TO 32767 DO WRITEINT(i); WRITELN END; WRITEINT(i)", 1, "32766\n32767\n32767");
    does("FOR i := -32767 TO -32767 - 1 BY -1 DO WRITELN END; WRITEINT(i)", 1, "\n\n-32768");
    does("FOR i := 1 TO 9 DO INC(i); WRITEINT(i) END", 1, "246810");
    does("j := 3; FOR i := 1 TO j DO j := 1; WRITEINT(i) END", 1, "123");
    does("LOOP FOR i := 1 TO 5 DO FOR j := 1 TO 5 DO IF j = 2 THEN EXIT END; WRITEINT(j) END END END; WRITEINT(i + j)", 1, "13");
    does("FOR i := 1 TO 2 DO LOOP FOR j := 1 TO 9 DO EXIT END END; WRITEINT(i) END; WRITEINT(i * (1 + 2))", 1, "129");
    does("RETURN; WRITEINT(1)", 1, "");
    does("FOR i := 1 TO 2 DO RETURN END; WRITEINT(1)", 1, "");
  }

  private static void procedures() {
    Mill m = new Mill("procedures");
    m.ends("MODULE M; PROCEDURE f(n: INTEGER): INTEGER; BEGIN IF n < 2 THEN RETURN n END; RETURN f(n - 1) + f(n - 2) END f; "
        + "BEGIN WRITEINT(f(10)) END M.", 1, "55");
    m.ends("MODULE M; VAR x: INTEGER; PROCEDURE p(n: INTEGER; VAR v: INTEGER); VAR l: INTEGER; BEGIN l := l + n; n := 9; "
        + "INC(v, l) END p; BEGIN p(2, x); p(3, x); WRITEINT(x) END M.", 1, "5");
    m.ends("MODULE M; VAR x: ARRAY 3 OF INTEGER; PROCEDURE q(VAR v: INTEGER); BEGIN v := 4 END q; "
        + "PROCEDURE p(VAR v: ARRAY 3 OF INTEGER); VAR w: ARRAY 3 OF INTEGER; BEGIN w[1] := 7; v[0] := w[1]; q(v[2]); q(w[0]); "
        + "WRITEINT(w[0] + w[2]) END p; BEGIN p(x); WRITEINT(x[0]); WRITEINT(x[1]); WRITEINT(x[2]) END M.", 1, "4704");
    m.ends("MODULE M; PROCEDURE p; VAR i: INTEGER; BEGIN FOR i := 1 TO 3 DO IF i = 2 THEN RETURN END; WRITEINT(i) END END p; "
        + "PROCEDURE f(): INTEGER; VAR i, j: INTEGER; BEGIN FOR i := 1 TO 9 DO FOR j := 1 TO 9 DO IF i * j = 12 THEN "
        + "RETURN i END END END; RETURN 0 END f; BEGIN p; WRITEINT(5 + f() * 2) END M.", 1, "19");
    m.ends("MODULE M; VAR x, y: PROCESS; PROCEDURE f(p: PROCESS): PROCESS; BEGIN RETURN p END f; PROCEDURE g; BEGIN WRITECHAR(\"g\"); "
        + "TRANSFER(y, x) END g; BEGIN NEWPROCESS(g, 20, y); TRANSFER(x, f(y)); WRITECHAR(\"m\") END M.", 1, "gm");
    m.ends("MODULE M; PROCEDURE p(a, b, c, d, e, f, g, h: INTEGER): INTEGER; BEGIN RETURN a - b + c - d + e - f + g - h END p; "
        + "BEGIN WRITEINT(p(1, 2, 3, p(1, 1, 1, 1, 1, 1, 1, 5), 5, 6, 7, 8)) END M.", 1, "4");
    m.due("no words are in use", m.x.seen(4), 0);
  }

  private static void traps() {
    does("i := 32767; WRITEINT(1); i := i + 1; WRITEINT(2)", 11, "1");
    does("i := -32767; i := i - 2", 11, "");
    does("i := 32766; i := i + 1; WRITEINT(i); i := -32767; i := i - 1; WRITEINT(i); i := 151 * 217; WRITEINT(i)", 1,
        "32767-3276832767");
    does("i := 182; i := i * i", 11, "");
    does("i := -32767 - 1; i := -i", 11, "");
    does("i := -32767 - 1; i := ABS(i)", 11, "");
    does("i := 32767; INC(i)", 11, "");
    does("i := -32767; DEC(i, 2)", 11, "");
    does("i := -1; DEC(i, -32767 - 1); WRITEINT(i)", 1, "32767");
    does("i := -32767 - 1; i := i DIV 1; WRITEINT(i MOD 32767)", 1, "32766");
    does("i := 5 DIV j", 12, "");
    does("j := 1; i := 5 DIV j; WRITEINT(i); i := 5 MOD j; WRITEINT(i)", 1, "50");
    does("i := 5 MOD j", 12, "");
    does("j := -1; i := 5 DIV j", 12, "");
    does("a[5] := 1", 13, "");
    does("a[-1] := 1", 13, "");
    does("i := a[5]", 13, "");
    does("INC(a[k])", 13, "");
    does("a[0] := 1; a[4] := 2; WRITEINT(a[0] + a[4])", 1, "3");
    does("c := CHR(256)", 14, "");
    does("c := CHR(-1)", 14, "");
    does("c := CHR(255); WRITEINT(ORD(c))", 1, "255");
    Mill m = new Mill("TRAP 6");
    m.ends("MODULE M; VAR x: INTEGER; PROCEDURE f(): INTEGER; VAR a: ARRAY 5 OF CHAR; BEGIN WRITEINT(1) END f; BEGIN x := f() END M.",
        16, "1");
    m.due("words in use", m.x.seen(4), 13);
    m.taken("run(5) once more", m.x.run(5), 16);
    room(m);
    Mill again = new Mill("a TRAP ends all");
    again.begin(Mill.in("i := 7; a[1] := 8; a[9] := 3; i := 1"));
    again.taken("run(9)", again.x.run(9), 13);
    again.taken("word(0, 0)", again.x.word(0, 0), 7);
    again.due("STEPS", again.x.seen(0), 3);
    again.taken("run(9)", again.x.run(9), 13);
    again.due("STEPS", again.x.seen(0), 3);
    again.taken("start()", again.x.start(), 14);
    again.taken("word(0, 0)", again.x.word(0, 0), 0);
    again.taken("run(1)", again.x.run(1), 0);
    Mill keeps = new Mill("what traps does nothing");
    keeps.begin(Mill.in("i := 32767; INC(i)"));
    keeps.taken("run(9)", keeps.x.run(9), 11);
    keeps.taken("word(0, 0)", keeps.x.word(0, 0), 32767);
  }

  private static void room(Mill m) {
    m.begin("MODULE M; VAR x: INTEGER; PROCEDURE p; BEGIN INC(x); p END p; BEGIN p END M.");
    m.taken("1600 words: 200 calls of 8", m.x.run(20000), 15);
    m.taken("word(0, 0)", m.x.word(0, 0), 200);
    m.due("words in use", m.x.seen(4), 1600);
    m.begin("MODULE M; VAR x: INTEGER; PROCEDURE p(g: CHAR; VAR h: INTEGER); VAR a: ARRAY 289 OF CHAR; b: CHAR; BEGIN INC(h); "
        + "p(g, h) END p; BEGIN p(\"a\", x) END M.");
    m.taken("5 calls of 300", m.x.run(20000), 15);
    m.taken("word(0, 0)", m.x.word(0, 0), 5);
    m.due("words in use", m.x.seen(4), 1500);
    m.begin("MODULE M; VAR x: INTEGER; PROCEDURE f(n: INTEGER): INTEGER; BEGIN INC(x); RETURN n + f(n) * 2 END f; BEGIN x := f(1) END M.");
    m.taken("177 calls of 9", m.x.run(20000), 15);
    m.taken("word(0, 0)", m.x.word(0, 0), 177);
    m.due("STEPS: the one ahead of the call, too", m.x.seen(0), 1 + 3 * 177 + 1);
  }

  private static void stepsOf(String statements, int due) {
    Mill m = new Mill("STEPS of " + statements);
    m.begin(Mill.in(statements));
    m.due("run(20000)", m.x.run(20000), 1);
    m.due("seen(0)", m.x.seen(0), due);
    m.x.start();
    m.due("run of one less", due > 0 ? m.x.run(due - 1) : 0, 0);
    m.due("run of just as many", m.x.run(due > 0 ? 1 : 0), 1);
  }

  private static void steps() {
    stepsOf("", 0);
    stepsOf("; ; ;", 0);
    stepsOf("i := 1; ; j := 2", 2);
    stepsOf("IF TRUE THEN i := 1 END", 2);
    stepsOf("IF FALSE THEN i := 1 ELSIF TRUE THEN ELSE i := 2 END", 1);
    stepsOf("WHILE i < 3 DO INC(i) END", 7);
    stepsOf("WHILE FALSE DO END", 1);
    stepsOf("REPEAT INC(i) UNTIL i = 3", 6);
    stepsOf("REPEAT UNTIL TRUE", 1);
    stepsOf("LOOP INC(i); IF i = 3 THEN EXIT END END", 10);
    stepsOf("LOOP EXIT END", 2);
    stepsOf("FOR i := 1 TO 3 DO j := i END", 7);
    stepsOf("FOR i := 1 TO 3 DO END", 4);
    stepsOf("FOR i := 1 TO 0 DO END", 1);
    stepsOf("FOR i := 32766 TO 32767 DO END", 3);
    stepsOf("LOOP FOR i := 1 TO 3 DO EXIT END END", 3);
    stepsOf("HALT; i := 1", 1);
    stepsOf("RETURN", 1);
    stepsOf("i := ABS(ORD(CHR(ABS(-3))))", 1);
    Mill m = new Mill("STEPS of functions");
    m.begin(withTrace("i := t(1) + t(2)"));
    m.due("run(20000)", m.x.run(20000), 1);
    m.due("seen(0)", m.x.seen(0), 7);
    m.begin("MODULE M; VAR x: INTEGER; PROCEDURE f(n: INTEGER): INTEGER; BEGIN RETURN n END f; PROCEDURE g(): INTEGER; BEGIN "
        + "WRITECHAR(\"g\"); RETURN 1 END g; BEGIN x := f(g()) END M.");
    m.due("run(4)", m.x.run(4), 0);
    m.dueText("a function's STEP is behind its ARGUMENTS", m.out(), "g");
    m.due("words in use", m.x.seen(4), 0);
    m.due("run(1)", m.x.run(1), 0);
    m.due("words in use", m.x.seen(4), 9);
    m.due("run(1)", m.x.run(1), 1);
    m.due("STEPS", m.x.seen(0), 6);
  }

  private static void running() {
    Mill m = new Mill("run(n)");
    m.begin(Mill.in("i := 1; i := 2; FOR j := 5 TO 6 DO i := j END"));
    m.taken("run(0)", m.x.run(0), 0);
    m.taken("word i", m.x.word(0, 0), 0);
    m.taken("run(1)", m.x.run(1), 0);
    m.taken("word i", m.x.word(0, 0), 1);
    m.due("STEPS", m.x.seen(0), 1);
    m.taken("run(2)", m.x.run(2), 0);
    m.taken("what stands ahead of the STEP that is one too many is done", m.x.word(0, 1), 5);
    m.taken("run(1)", m.x.run(1), 0);
    m.taken("word j ahead of FOR's STEP", m.x.word(0, 1), 5);
    m.taken("run(1)", m.x.run(1), 0);
    m.taken("word j behind FOR's STEP", m.x.word(0, 1), 6);
    m.taken("run(20000)", m.x.run(20000), 1);
    m.due("STEPS", m.x.seen(0), 7);
    m.taken("run(0)", m.x.run(0), 1);
    m.refused("run(20001)", m.x.run(20001), 1);
    m.refused("run(-1)", m.x.run(-1), 1);
    m.begin("MODULE M; END M.");
    m.taken("nothing to do", m.x.run(0), 1);
    m.begin(Mill.in("LOOP END"));
    m.taken("it goes on and on", m.x.run(20000), 0);
    m.taken("it goes on and on", m.x.run(20000), 0);
    m.due("STEPS", m.x.seen(0), 40000);
    Mill at = new Mill("a TRAP ahead of the STEP that is one too many");
    at.begin(Mill.in("i := 1; i := 1 DIV j"));
    at.taken("run(1)", at.x.run(1), 0);
    at.taken("run(1)", at.x.run(1), 12);
  }

  private static void words() {
    Mill m = new Mill("words at the top");
    m.right("DEFINITION MODULE D; VAR x, y: INTEGER; z: ARRAY 2 OF CHAR; END D.");
    m.right("IMPLEMENTATION MODULE D; VAR b: BOOLEAN; w: INTEGER; BEGIN x := 1; y := -2; z[1] := \"c\"; b := TRUE; w := 5 END D.");
    m.right("MODULE M; FROM D IMPORT y; VAR p: PROCESS; v: INTEGER; PROCEDURE q; BEGIN END q; BEGIN v := y; NEWPROCESS(q, 16, p) END M.");
    m.taken("link(1)", m.x.link(1), 2);
    m.refused("word(0, 0), not begun", m.x.word(0, 0), 4);
    m.taken("start()", m.x.start(), 8);
    m.taken("word(0, 0) at the beginning", m.x.word(0, 0), 0);
    m.taken("run(99)", m.x.run(99), 1);
    int[] due = {1, -2, 0, 99, 1, 5};
    for (int i = 0; i < due.length; i++) {
      m.taken("word(0, " + i + ")", m.x.word(0, i), due[i]);
    }
    m.refused("word(0, 6)", m.x.word(0, 6), 2);
    m.taken("word(1, 0)", m.x.word(1, 0), 2);
    m.taken("word(1, 1)", m.x.word(1, 1), -2);
  }
}
