/** '3 THE MACHINE': INTEGERS, TRAPS, words, FOR, STEPS, OUT and IN, each on both sides of its edge. */
final class MachineBoundsTest {
  private static final int HALTED = 1;

  public static void main(String[] args) {
    sums();
    products();
    quotients();
    signs();
    changes();
    indices();
    characters();
    wordsOfTheFirst();
    wordsOfAnother();
    functionsWithoutReturn();
    forAtTheEnds();
    stepsOfRun();
    beginning();
    beginWithZero();
    secondOnlyIfItMatters();
    steps();
    loopsWithinFor();
    longRuns();
    numbersOut();
    outAtItsEnd();
    inAtItsEnd();
    allThatTraps();
    Mill.end();
  }

  /** A new object: i is one number, j another one; the statement makes k of them, or it traps. */
  private static void makes(int i, int j, String statement, int trap, int k) {
    Mill m = new Mill(i + ", " + j + ": " + statement);
    m.begin("MODULE M; VAR i, j, k: INTEGER; a: ARRAY 2 OF INTEGER; BEGIN READINT(i); READINT(j); k := 77; " + statement + " END M.");
    m.taken("give", m.x.give(i), 1);
    m.taken("give", m.x.give(j), 2);
    m.taken("run(99)", m.x.run(99), trap == 0 ? HALTED : 10 + trap);
    m.taken("word k", m.x.word(0, 2), trap == 0 ? k : 77);
    m.taken("word i", m.x.word(0, 0), i);
    m.taken("run(0) once more", m.x.run(0), trap == 0 ? HALTED : 10 + trap);
  }

  /** The same, if the answer is an INTEGER; else TRAP 1. */
  private static void integer(int i, int j, String statement, long k) {
    boolean fits = k >= -32768 && k <= 32767;
    makes(i, j, statement, fits ? 0 : 1, fits ? (int) k : 0);
  }

  private static void sums() {
    int[][] pairs = {{32767, 0}, {32767, 1}, {32766, 1}, {32766, 2}, {16384, 16384}, {16384, 16383}, {32767, 32767}, {-32768, 0}, {-32768, -1},
        {-32767, -1}, {-32767, -2}, {-16384, -16384}, {-16384, -16385}, {-32768, -32768}, {-32768, 32767}, {1, 2}, {0, 0}};
    for (int[] one : pairs) {
      integer(one[0], one[1], "k := i + j", one[0] + one[1]);
      integer(one[0], -Math.max(one[1], -32767), "k := i - j", one[0] + Math.max(one[1], -32767));
    }
    integer(-1, -32768, "k := i - j", 32767);
    integer(0, -32768, "k := i - j", 32768);
    integer(-32768, 32767, "k := i - j", -65535);
  }

  private static void products() {
    int[][] pairs = {{181, 181}, {182, 181}, {182, 182}, {-182, 181}, {-256, 128}, {256, -128}, {256, 128}, {-256, -128}, {32767, 1}, {32767, -1},
        {-32768, 1}, {-32768, -1}, {-32768, 0}, {16384, 2}, {16383, 2}, {-16384, 2}, {-16385, 2}, {-32768, -32768}, {32767, 32767},
        {32767, -32768}, {217, 151}};
    for (int[] one : pairs) {
      integer(one[0], one[1], "k := i * j", (long) one[0] * one[1]);
    }
  }

  /** DIV is rounded down, MOD 0 to the divisor less 1; by 0 or less is TRAP 2. */
  private static void quotients() {
    int[] left = {0, 1, -1, 6, 7, 8, -6, -7, -8, 32767, -32768};
    int[] right = {1, 2, 7, 8, 32767, 0, -1, -2, -32768};
    for (int i : left) {
      for (int j : right) {
        boolean traps = j <= 0;
        makes(i, j, "k := i DIV j", traps ? 2 : 0, traps ? 0 : Math.floorDiv(i, j));
        makes(i, j, "k := i MOD j", traps ? 2 : 0, traps ? 0 : Math.floorMod(i, j));
      }
    }
  }

  private static void signs() {
    for (int i : new int[] {0, 1, -1, 32767, -32767, -32768}) {
      integer(i, 0, "k := -i", -i);
      integer(i, 0, "k := +i", i);
      integer(i, 0, "k := ABS(i)", Math.abs(i));
      integer(i, 0, "k := ORD(ODD(i))", i & 1);
    }
  }

  private static void changes() {
    int[][] pairs = {{32766, 1}, {32767, 1}, {32767, 0}, {-32768, -1}, {-32767, -1}, {0, 32767}, {1, 32767}, {-1, -32768}, {0, -32768},
        {-32768, 32767}};
    for (int[] one : pairs) {
      integer(one[0], one[1], "a[1] := i; INC(a[1], j); k := a[1]", one[0] + one[1]);
      integer(one[0], one[1], "a[1] := i; DEC(a[1], j); k := a[1]", one[0] - one[1]);
    }
    integer(32766, 0, "j := i; INC(j); k := j", 32767);
    integer(32767, 0, "j := i; INC(j); k := j", 32768);
    integer(-32767, 0, "j := i; DEC(j); k := j", -32768);
    integer(-32768, 0, "j := i; DEC(j); k := j", -32769);
    integer(5, 3, "j := 3; INC(j); DEC(j); k := j", 3);
  }

  /** TRAP 3: an index not 0 to the ARRAY's number less 1. */
  private static void indices() {
    for (int number : new int[] {1, 2, 500}) {
      for (int index : new int[] {-32768, -1, 0, number - 1, number, 32767}) {
        boolean right = index >= 0 && index < number;
        String global = "MODULE M; VAR i: INTEGER; a: ARRAY " + number + " OF INTEGER; z: INTEGER; ";
        String[] uses = {"a[i] := 5", "z := a[i]", "INC(a[i])", "READINT(a[i])", "IF a[i] = 0 THEN END", "OPENFILE(\"x\", a[i])"};
        for (String use : uses) {
          indexed(global + "BEGIN READINT(i); " + use + " END M.", index, right);
        }
        int most = Math.min(number, 290);
        boolean rightLocal = index >= 0 && index < most;
        indexed("MODULE M; VAR i: INTEGER; PROCEDURE p; VAR b, a: ARRAY " + Math.min(most, 145) + " OF CHAR; BEGIN a[i] := \"x\" END p; "
            + "BEGIN READINT(i); p END M.", index, index >= 0 && index < Math.min(most, 145));
        indexed("MODULE M; VAR i: INTEGER; c: ARRAY " + most + " OF CHAR; PROCEDURE p(VAR a: ARRAY " + most + " OF CHAR); "
            + "BEGIN a[i] := \"x\" END p; BEGIN READINT(i); p(c) END M.", index, rightLocal);
        indexed(global + "PROCEDURE p(VAR x: INTEGER); BEGIN END p; BEGIN READINT(i); p(a[i]) END M.", index, right);
      }
    }
    Mill m = new Mill("the words of an ARRAY are its own");
    m.begin("MODULE M; VAR x: INTEGER; a: ARRAY 3 OF INTEGER; y: INTEGER; BEGIN a[0] := 1; a[1] := 2; a[2] := 3; x := 8; y := 9 END M.");
    m.taken("run(9)", m.x.run(9), HALTED);
    int[] due = {8, 1, 2, 3, 9};
    for (int i = 0; i < 5; i++) {
      m.taken("word(0, " + i + ")", m.x.word(0, i), due[i]);
    }
  }

  private static void indexed(String text, int index, boolean right) {
    Mill m = new Mill("index " + index);
    m.begin(text);
    m.taken("give", m.x.give(index), 1);
    m.taken("run of " + text, m.x.run(99), right ? HALTED : 13);
  }

  /** TRAP 4: CHR of others than 0 to 255. */
  private static void characters() {
    for (int i : new int[] {-32768, -256, -1, 0, 1, 127, 128, 254, 255, 256, 257, 32767}) {
      boolean right = i >= 0 && i <= 255;
      makes(i, 0, "k := ORD(CHR(i))", right ? 0 : 4, i);
    }
  }

  private static String locals(int words) {
    return words == 0 ? "" : "VAR l: ARRAY " + words + " OF CHAR; ";
  }

  /** TRAP 5: the first PROCESS has 1600 words; a call takes 8 and those of its GROUPS and LOCALS. */
  private static void wordsOfTheFirst() {
    // Each call of p takes 8, and the last one, of q, takes 8 and its own.
    for (int last = 0; last <= 9; last++) {
      for (int deep = 198; deep <= 200; deep++) {
        int used = deep * 8 + 8 + last;
        Mill m = new Mill(deep + " calls of 8 words, one of " + (8 + last));
        m.begin("MODULE M; VAR n: INTEGER; PROCEDURE q; " + locals(last) + "BEGIN LOOP END END q; PROCEDURE p; BEGIN INC(n); IF n < " + deep
            + " THEN p ELSE q END END p; BEGIN p END M.");
        m.taken("run(2000)", m.x.run(2000), used <= 1600 ? 0 : 15);
        m.due("words in use", m.x.seen(4), used <= 1600 ? used : deep * 8);
        m.taken("calls", m.x.word(0, 0), deep);
      }
    }
    Mill m = new Mill("GROUPS and LOCALS");
    m.begin("MODULE M; VAR v: ARRAY 500 OF CHAR; PROCEDURE p(x, y: INTEGER; VAR z: ARRAY 500 OF CHAR); VAR a: ARRAY 10 OF CHAR; b: CHAR; "
        + "BEGIN LOOP END END p; BEGIN p(1, 2, v) END M.");
    m.taken("run(5)", m.x.run(5), 0);
    m.due("8, 3 of its GROUPS, 11 of its LOCALS", m.x.seen(4), 22);
    Mill free = new Mill("words are free behind a call");
    free.begin("MODULE M; VAR i: INTEGER; PROCEDURE p; VAR a: ARRAY 300 OF CHAR; END p; PROCEDURE f(): INTEGER; VAR a: ARRAY 300 OF CHAR; "
        + "BEGIN RETURN 1 END f; BEGIN FOR i := 1 TO 100 DO p; i := i - 1 + f() END END M.");
    free.taken("run(2000)", free.x.run(2000), HALTED);
    free.due("words in use", free.x.seen(4), 0);
  }

  private static void wordsOfAnother() {
    for (int size = 14; size <= 18; size++) {
      for (int words = 6; words <= 10; words++) {
        Mill m = new Mill("a PROCESS of " + size + " words, a call of " + (8 + words));
        m.begin("MODULE M; VAR m, p: PROCESS; PROCEDURE one; " + locals(words) + "BEGIN LOOP END END one; BEGIN NEWPROCESS(one, " + size
            + ", p); WRITECHAR(\"!\"); TRANSFER(m, p) END M.");
        int due = size < 16 ? 17 : 8 + words > size ? 15 : 0;
        m.taken("run(99)", m.x.run(99), due);
        m.dueText("it can't be made, or it can't begin", m.out(), size < 16 ? "" : "!");
        m.due("PROCESSES", m.x.seen(5), size < 16 ? 1 : 2);
        m.due("words in use", m.x.seen(4), due == 0 ? 8 + words : 0);
        m.due("the one that runs", m.x.seen(2), size < 16 ? 1 : 2);
      }
    }
    for (int size = 398; size <= 402; size++) {
      for (int words = 90; words <= 94; words++) {
        Mill m = new Mill("a PROCESS of " + size + " words, calls of 300 and " + (8 + words));
        m.begin("MODULE M; VAR m, p: PROCESS; PROCEDURE two; " + locals(words) + "BEGIN LOOP END END two; PROCEDURE one; "
            + locals(292) + "BEGIN two END one; BEGIN NEWPROCESS(one, " + size + ", p); TRANSFER(m, p) END M.");
        int due = size > 400 ? 17 : 308 + words > size ? 15 : 0;
        m.taken("run(99)", m.x.run(99), due);
        m.due("words in use", m.x.seen(4), due == 17 ? 0 : due == 15 ? 300 : 308 + words);
      }
    }
    for (int size : new int[] {-32768, -16, 0, 1, 32767}) {
      Mill m = new Mill("a PROCESS of " + size + " words");
      m.begin("MODULE M; VAR i: INTEGER; p: PROCESS; PROCEDURE one; END one; BEGIN READINT(i); NEWPROCESS(one, i, p) END M.");
      m.taken("give", m.x.give(size), 1);
      m.taken("run(99)", m.x.run(99), 17);
      m.taken("the PLACE is as it was", m.x.word(0, 1), 0);
    }
  }

  private static void functionsWithoutReturn() {
    String head = "MODULE M; VAR i: INTEGER; PROCEDURE f(n: INTEGER): INTEGER; BEGIN WHILE n > 0 DO IF n = 2 THEN RETURN n END; DEC(n) END ";
    new Mill("TRAP 6").ends(head + "END f; BEGIN i := f(3); WRITEINT(i); i := f(1); WRITEINT(i) END M.", 16, "2");
    new Mill("no TRAP").ends(head + "; RETURN -1 END f; BEGIN i := f(3); WRITEINT(i); i := f(1); WRITEINT(i) END M.", HALTED, "2-1");
    new Mill("no BEGIN").ends("MODULE M; VAR i: INTEGER; PROCEDURE f(): INTEGER; END f; BEGIN i := f() END M.", 16, "");
    new Mill("a procedure needs none").ends("MODULE M; PROCEDURE p; BEGIN END p; PROCEDURE q; END q; BEGIN p; q; WRITEINT(1) END M.", HALTED, "1");
  }

  /** A FOR of so many turns: what its variable is behind it, and its STEPS. */
  private static void loop(int first, int last, String by, int turns, int behind) {
    Mill m = new Mill("FOR " + first + " TO " + last + " BY " + by);
    m.begin("MODULE M; VAR i, j, v, n: INTEGER; BEGIN READINT(i); READINT(j); FOR v := i TO j" + (by.isEmpty() ? "" : " BY " + by)
        + " DO INC(n) END END M.");
    m.x.give(first);
    m.x.give(last);
    m.taken("run(20000)", m.x.run(20000), HALTED);
    m.taken("turns", m.x.word(0, 3), turns);
    m.taken("the variable", m.x.word(0, 2), behind);
    m.due("STEPS", m.x.seen(0), 3 + 2 * turns);
  }

  private static void forAtTheEnds() {
    loop(1, 3, "", 3, 4);
    loop(3, 3, "", 1, 4);
    loop(4, 3, "", 0, 4);
    loop(32766, 32767, "", 2, 32767);
    loop(32767, 32767, "", 1, 32767);
    loop(32765, 32766, "", 2, 32767);
    loop(32767, 32766, "", 0, 32767);
    loop(32760, 32767, "3", 3, 32766);
    loop(32761, 32767, "3", 3, 32767);
    loop(32762, 32767, "3", 2, 32765);
    loop(-32768, -32767, "", 2, -32766);
    loop(0, 32767, "32767", 2, 32767);
    loop(1, 32767, "32767", 1, 1);
    loop(-32768, 32767, "32767", 3, 32766);
    loop(3, 1, "-1", 3, 0);
    loop(1, 1, "-1", 1, 0);
    loop(0, 1, "-1", 0, 0);
    loop(-32767, -32768, "-1", 2, -32768);
    loop(-32768, -32768, "-1", 1, -32768);
    loop(-32766, -32768, "-2", 2, -32768);
    loop(-32765, -32768, "-2", 2, -32767);
    loop(0, -32768, "-32767 - 1", 2, -32768);
    loop(-1, -32768, "-32767 - 1", 1, -1);
    loop(32767, -32768, "-32767 - 1", 2, -1);
    loop(5, 5, "1", 1, 6);
    loop(5, 5, "-1", 1, 4);
  }

  private static void stepsOfRun() {
    Mill m = new Mill("run(n)");
    m.begin("MODULE M; VAR i: INTEGER; BEGIN LOOP INC(i); DEC(i) END END M.");
    m.taken("run(0)", m.x.run(0), 0);
    m.due("STEPS", m.x.seen(0), 0);
    m.taken("run(1)", m.x.run(1), 0);
    m.due("STEPS", m.x.seen(0), 1);
    m.taken("run(20000)", m.x.run(20000), 0);
    m.due("STEPS", m.x.seen(0), 20001);
    m.denied("run(20001)", () -> m.x.run(20001), 1);
    m.denied("run(-1)", () -> m.x.run(-1), 1);
    m.denied("run(the most)", () -> m.x.run(Integer.MAX_VALUE), 1);
    m.denied("run(the least)", () -> m.x.run(Integer.MIN_VALUE), 1);
    m.taken("run(19999)", m.x.run(19999), 0);
    m.due("STEPS", m.x.seen(0), 40000);
    Mill last = new Mill("the last STEP");
    last.begin("MODULE M; VAR i: INTEGER; BEGIN i := 1; i := 2 END M.");
    last.taken("run(1)", last.x.run(1), 0);
    last.taken("run(1)", last.x.run(1), HALTED);
    last.due("STEPS", last.x.seen(0), 2);
    last.taken("run(20000)", last.x.run(20000), HALTED);
    last.due("STEPS", last.x.seen(0), 2);
    last.denied("run(20001), HALTED", () -> last.x.run(20001), 1);
    Mill none = new Mill("no STEP");
    none.begin("MODULE M; BEGIN ; ; END M.");
    none.taken("run(0)", none.x.run(0), HALTED);
    none.due("STEPS", none.x.seen(0), 0);
  }

  /** start(): all is at its beginning, whatever state the machine was in. */
  private static void beginning() {
    Mill m = new Mill("start()");
    m.denied("start(), nothing LINKED", () -> m.x.start(), 4);
    m.right("MODULE M; VAR p, q: PROCESS; i: INTEGER; PROCEDURE e; VAR l: ARRAY 20 OF CHAR; BEGIN IOTRANSFER(p, q); LOOP END END e; "
        + "PROCEDURE f(n: INTEGER): INTEGER; BEGIN WRITECHAR(\"f\"); RETURN n + f(n) END f; "
        + "BEGIN READINT(i); NEWFILE(\"a\", i); NEWPROCESS(e, 40, p); TRANSFER(q, p); i := 1 + f(1) END M.");
    m.denied("start(), nothing LINKED", () -> m.x.start(), 4);
    m.denied("run(1), not begun", () -> m.x.run(1), 4);
    m.taken("link(0)", m.x.link(0), 1);
    m.denied("run(1), not begun", () -> m.x.run(1), 4);
    m.x.give(9);
    for (int steps : new int[] {0, 3, 5, 9, 30, 2000}) {
      m.taken("start()", m.x.start(), 3);
      int[] due = {0, 0, 1, 0, 0, 1, 1, 0};
      for (int what = 0; what < 8; what++) {
        m.due("seen(" + what + ")", m.x.seen(what), due[what]);
      }
      for (int i = 0; i < 3; i++) {
        m.taken("word(0, " + i + ")", m.x.word(0, i), 0);
      }
      m.due("out(0)", m.x.out(0), -1);
      m.x.run(steps);
    }
    m.taken("link(0)", m.x.link(0), 1);
    int[] due = {0, 0, 0, 0, 0, 0, 1, 1};
    for (int what = 0; what < 8; what++) {
      m.due("seen(" + what + "), not begun", m.x.seen(what), due[what]);
    }
    m.due("out(0), not begun", m.x.out(0), -1);
    m.denied("word(0, 0), not begun", () -> m.x.word(0, 0), 4);
    Mill within = new Mill("start() while the first PROCESS is in a call");
    within.begin("MODULE M; VAR p, q: PROCESS; n: INTEGER; PROCEDURE e; BEGIN LOOP END END e; PROCEDURE deep(k: INTEGER); VAR l: ARRAY 91 OF CHAR; "
        + "BEGIN INC(n); IF k > 0 THEN deep(k - 1) ELSE TRANSFER(q, p); LOOP END END END deep; BEGIN NEWPROCESS(e, 40, p); deep(15) END M.");
    for (int turn = 0; turn < 3; turn++) {
      within.taken("run(200)", within.x.run(200), 0);
      within.due("another PROCESS runs", within.x.seen(2), 2);
      within.taken("sixteen calls of 100 words", within.x.word(0, 2), 16);
      within.taken("start()", within.x.start(), 3);
      within.due("the first one runs", within.x.seen(2), 1);
      within.due("words in use", within.x.seen(4), 0);
    }
    Mill bodies = new Mill("all BODIES once more");
    bodies.right("DEFINITION MODULE D; VAR d: INTEGER; END D.");
    bodies.right("IMPLEMENTATION MODULE D; BEGIN INC(d); WRITECHAR(\"D\") END D.");
    bodies.right("MODULE M; FROM D IMPORT d; VAR m: INTEGER; BEGIN INC(d); INC(m); WRITECHAR(\"M\") END M.");
    bodies.taken("link(1)", bodies.x.link(1), 2);
    for (int turn = 0; turn < 3; turn++) {
      bodies.taken("start()", bodies.x.start(), 2);
      bodies.taken("run(3)", bodies.x.run(3), 0);
      bodies.taken("run(99)", bodies.x.run(99), HALTED);
      bodies.dueText("OUT", bodies.out(), "DM");
      bodies.taken("word d", bodies.x.word(0, 0), 2);
      bodies.taken("word m", bodies.x.word(1, 0), 1);
    }
  }

  /** All variables begin with 0 (FALSE, CHAR 0, no PROCESS), LOCALS anew with each call. */
  private static void beginWithZero() {
    String variables = "i: INTEGER; c: CHAR; b: BOOLEAN; p: PROCESS; a: ARRAY 3 OF INTEGER; d: ARRAY 3 OF BOOLEAN";
    String tell = "WRITEINT(i); WRITEINT(ORD(c)); WRITEINT(ORD(b)); WRITEINT(a[0]); WRITEINT(a[2]); WRITEINT(ORD(d[2])); ";
    String change = "i := 7; c := \"x\"; b := TRUE; a[0] := 8; a[2] := 9; d[2] := TRUE; ";
    new Mill("at the top").ends("MODULE M; VAR " + variables + "; BEGIN " + tell + change + tell + "TRANSFER(p, p) END M.", 17,
        "000000" + "71201891");
    new Mill("LOCALS anew").ends("MODULE M; PROCEDURE q; VAR " + variables + "; BEGIN " + tell + change + "END q; BEGIN q; q; q END M.", HALTED,
        "000000000000000000");
    new Mill("no PROCESS").ends("MODULE M; VAR m, o: PROCESS; PROCEDURE q(n: INTEGER); VAR p: PROCESS; BEGIN IF n = 1 THEN p := o; "
        + "WRITEINT(n) ELSE TRANSFER(m, p) END END q; PROCEDURE e; END e; BEGIN NEWPROCESS(e, 16, o); q(1); q(2) END M.", 17, "1");
    new Mill("in a call in the same words").ends("MODULE M; PROCEDURE r; VAR a: ARRAY 20 OF INTEGER; i: INTEGER; BEGIN FOR i := 0 TO 19 DO "
        + "a[i] := 5 END END r; PROCEDURE q(g: INTEGER); VAR a: ARRAY 19 OF INTEGER; i: INTEGER; BEGIN WRITEINT(i); FOR i := 0 TO 18 DO "
        + "WRITEINT(a[i]) END; WRITEINT(g) END q; BEGIN r; q(4) END M.", HALTED, Mill.times(20, "0") + "4");
  }

  private static void secondOnlyIfItMatters() {
    String[] second = {"(1 DIV i = 1)", "(a[7] = 1)", "(CHR(j) = c)", "(32767 + j > 0)"};
    int[] traps = {12, 13, 14, 11};
    for (int t = 0; t < second.length; t++) {
      String begin = "j := 256; b := ";
      Mill.does("FALSE AND", begin + "FALSE AND " + second[t] + "; WRITEINT(ORD(b))", HALTED, "0");
      Mill.does("TRUE OR", begin + "TRUE OR " + second[t] + "; WRITEINT(ORD(b))", HALTED, "1");
      Mill.does("TRUE AND", begin + "TRUE AND " + second[t] + "; WRITEINT(ORD(b))", traps[t], "");
      Mill.does("FALSE OR", begin + "FALSE OR " + second[t] + "; WRITEINT(ORD(b))", traps[t], "");
      Mill.does("what it was before is gone", "i := 0; b := TRUE; " + begin + "FALSE AND " + second[t] + "; WRITEINT(ORD(b)); WRITEINT(i)",
          HALTED, "00");
      Mill.does("what it was before is gone", "i := 0; b := FALSE; " + begin + "TRUE OR " + second[t] + "; WRITEINT(ORD(b)); WRITEINT(i)",
          HALTED, "10");
      Mill.does("within another one", "i := 0; j := 256; WRITEINT(7 + ORD(FALSE AND " + second[t] + ") * 3); WRITEINT(7 + ORD(TRUE OR "
          + second[t] + ") * 3)", HALTED, "710");
      Mill.does("the first one is asked", begin + second[t] + " AND FALSE", traps[t], "");
      Mill.does("the first one is asked", begin + second[t] + " OR TRUE", traps[t], "");
      Mill.does("a third one", begin + "TRUE AND FALSE AND " + second[t], HALTED, "");
      Mill.does("a third one", begin + "FALSE OR TRUE OR " + second[t], HALTED, "");
      Mill.does("a third one", begin + "FALSE AND TRUE OR " + second[t], traps[t], "");
    }
  }

  /** How many STEPS these statements have; with one less they are not at their end. */
  private static void steps(String statements, int due) {
    String text = "MODULE M; VAR i, j: INTEGER; b: BOOLEAN; PROCEDURE p; END p; PROCEDURE q(n: INTEGER); BEGIN IF n > 0 THEN q(n - 1) END END q; "
        + "PROCEDURE f(n: INTEGER): INTEGER; BEGIN RETURN n END f; PROCEDURE g(n: INTEGER): INTEGER; BEGIN IF n = 0 THEN RETURN 0 END; "
        + "RETURN g(n - 1) END g; BEGIN " + statements + " END M.";
    Mill m = new Mill("STEPS of " + statements);
    m.begin(text);
    m.taken("run(20000)", m.x.run(20000), HALTED);
    m.due("seen(0)", m.x.seen(0), due);
    if (due > 0) {
      m.x.start();
      m.taken("run of one less", m.x.run(due - 1), 0);
      m.due("seen(0)", m.x.seen(0), due - 1);
      m.taken("run(1)", m.x.run(1), HALTED);
    }
  }

  private static void steps() {
    String[] ones = {"i := 1", "p", "p()", "q(0)", "IF b THEN END", "IF b THEN ELSIF b THEN ELSE END", "WHILE b DO END", "REPEAT UNTIL TRUE",
        "FOR i := 2 TO 1 DO END", "RETURN", "HALT", "INC(i)", "WRITELN", "NEWFILE(\"a\", i)", "READINT(i)"};
    int[] due = {1, 1, 1, 2, 1, 1, 1, 1, 1, 1, 1, 1, 1, 1, 1};
    for (int i = 0; i < ones.length; i++) {
      steps(ones[i], due[i]);
      steps("; ; " + ones[i] + "; ;", due[i]);
      steps("IF TRUE THEN " + ones[i] + " END", 1 + due[i]);
      steps("REPEAT " + ones[i] + " UNTIL TRUE", 1 + due[i]);
      steps("LOOP " + ones[i] + "; EXIT END", ones[i].equals("RETURN") || ones[i].equals("HALT") ? 2 : 2 + due[i]);
    }
    steps("", 0);
    steps("LOOP EXIT END", 2);
    steps("WHILE i < 1 DO INC(i) END", 1 + 2);
    steps("WHILE i < 5 DO INC(i) END", 1 + 10);
    steps("WHILE i < 5 DO ; INC(i); ; INC(j) END", 1 + 15);
    steps("REPEAT INC(i) UNTIL i = 1", 2);
    steps("REPEAT INC(i) UNTIL i = 5", 1 + 5 + 4);
    steps("LOOP INC(i); IF i = 5 THEN EXIT END END", 1 + 5 * 2 + 1 + 4);
    steps("FOR i := 1 TO 1 DO END", 2);
    steps("FOR i := 1 TO 5 DO END", 6);
    steps("FOR i := 1 TO 5 DO INC(j) END", 11);
    steps("FOR i := 1 TO 5 BY 2 DO INC(j) END", 7);
    steps("FOR i := 5 TO 1 BY -1 DO FOR j := 1 TO 2 DO END END", 1 + 5 * (3 + 1));
    steps("i := f(1)", 3);
    steps("i := f(f(1)) + f(2)", 1 + 3 * 2);
    steps("i := ABS(f(1)) + ORD(ODD(3))", 3);
    steps("i := g(3)", 1 + 4 * 2 + 4);
    steps("q(3)", 1 + 3 * 2 + 1);
    steps("IF f(1) = 1 THEN END", 3);
    steps("IF b AND (f(1) = 1) THEN END", 1);
    steps("WHILE f(i) < 2 DO INC(i) END", 1 + 2 + 2 * (1 + 1 + 2));
  }

  /** What a FOR goes on to is not lost in what stands within it. */
  private static void loopsWithinFor() {
    String[] within = {
      "j := 0; WHILE j < 3 DO INC(j) END", "j := 0; WHILE j < 0 DO INC(j) END", "j := 0; REPEAT INC(j) UNTIL j = 3", "REPEAT UNTIL TRUE",
      "j := 0; LOOP INC(j); IF j = 3 THEN EXIT END END", "LOOP EXIT END", "FOR j := 1 TO 3 DO END", "FOR j := 3 TO 1 DO END",
      "FOR j := 3 TO 1 BY -1 DO END", "LOOP FOR j := 1 TO 3 DO IF j = 2 THEN EXIT END END END", "IF b THEN ELSIF TRUE THEN ELSE END",
      "IF b THEN HALT END", "p", "q(2)", "j := f(2)", "j := f(f(1)) + f(0)", "c := \"x\"; b := (c = \"x\") AND NOT TRUE OR FALSE",
      "LOOP WHILE TRUE DO EXIT END END", "LOOP REPEAT EXIT UNTIL FALSE END", "LOOP LOOP EXIT END; EXIT END", "b := FALSE AND b OR b AND TRUE",
      "WRITESTRING(\"\"); READINT(j); INC(j, 2); DEC(j)", "NEWFILE(\"a\", j); WRITEBYTE(j, 1); READBYTE(j, j)", "WHILE i = 99 DO LOOP END END",
    };
    for (String one : within) {
      Mill m = new Mill("FOR around " + one);
      m.ends("MODULE M; VAR i, j: INTEGER; b: BOOLEAN; c: CHAR; PROCEDURE p; BEGIN RETURN END p; PROCEDURE q(n: INTEGER); BEGIN LOOP IF n = 0 THEN "
          + "RETURN END; FOR n := n TO 1 BY -1 DO q(n - 1); RETURN END END END q; PROCEDURE f(n: INTEGER): INTEGER; BEGIN FOR n := n TO 9 DO "
          + "WHILE TRUE DO RETURN n END END END f; BEGIN FOR i := 1 TO 4 DO " + one + "; WRITEINT(i) END; WRITEINT(i); FOR i := 4 TO 1 BY -2 DO "
          + one + "; WRITEINT(i) END; WRITEINT(i) END M.", HALTED, "12345420");
      m.due("words in use", m.x.seen(4), 0);
    }
  }

  /** Nothing piles up in a hundred thousand STEPS. */
  private static void longRuns() {
    Mill m = new Mill("long runs");
    m.begin("MODULE M; VAR i, j, n: INTEGER; b: BOOLEAN; PROCEDURE p; BEGIN RETURN END p; PROCEDURE q; END q; PROCEDURE f(n: INTEGER): INTEGER; "
        + "BEGIN RETURN n + 1 END f; BEGIN LOOP p; q; n := f(n) MOD 1000; b := FALSE AND b; IF b THEN EXIT END; FOR i := 1 TO 2 DO END; "
        + "j := 3; WHILE j > 0 DO DEC(j) END; LOOP EXIT END; REPEAT UNTIL TRUE END END M.");
    for (int turn = 0; turn < 60; turn++) {
      m.taken("run(20000)", m.x.run(20000), 0);
    }
    m.due("STEPS", m.x.seen(0), 1200000);
    m.taken("word b", m.x.word(0, 3), 0);
    m.taken("word j", m.x.word(0, 1) <= 3 ? 0 : 1, 0);
    // Behind LOOP's own STEP each turn has p and its RETURN, q, the sum with its function's two, b, IF, FOR and its two, j,
    // WHILE with its six, LOOP, EXIT, REPEAT, and the STEP of the next turn.
    int each = 2 + 1 + 3 + 1 + 1 + 3 + 1 + 7 + 2 + 1 + 1;
    int sums = (1200000 - 1) / each + ((1200000 - 1) % each >= 2 + 1 + 3 ? 1 : 0);
    m.taken("word n", m.x.word(0, 2), sums % 1000);
  }

  private static void numbersOut() {
    int[] all = {0, 1, 9, 10, 11, 99, 100, 101, 999, 1000, 1001, 9999, 10000, 10001, 19999, 20000, 30000, 32767};
    for (int one : all) {
      for (int number : new int[] {one, -one}) {
        Mill m = new Mill("WRITEINT of " + number);
        m.begin("MODULE M; VAR i: INTEGER; BEGIN READINT(i); WRITEINT(i); WRITELN END M.");
        m.x.give(number);
        m.taken("run(9)", m.x.run(9), HALTED);
        m.dueText("OUT", m.out(), number + "\n");
      }
    }
    Mill.does("the least INTEGER", "i := -32767; DEC(i); WRITEINT(i)", HALTED, "-32768");
  }

  /** OUT has at most 2000 bytes (others are lost). */
  private static void outAtItsEnd() {
    String[] writes = {"WRITECHAR(\"z\")", "WRITESTRING(\"zyx\")", "WRITEINT(-345)", "WRITELN", "WRITESTRING(\"\")"};
    String[] bytes = {"z", "zyx", "-345", "\n", ""};
    for (int before = 1996; before <= 2000; before++) {
      for (int w = 0; w < writes.length; w++) {
        Mill m = new Mill("OUT behind " + before + " bytes, " + writes[w]);
        m.begin("MODULE M; VAR i: INTEGER; BEGIN FOR i := 1 TO " + before + " DO WRITECHAR(\".\") END; " + writes[w] + "; " + writes[w]
            + "; i := 5 END M.");
        m.taken("run(20000)", m.x.run(20000), HALTED);
        int due = Math.min(2000, before + 2 * bytes[w].length());
        m.due("seen(1)", m.x.seen(1), due);
        m.due("out(its length)", m.x.out(due), -1);
        for (int i = 1996; i < due; i++) {
          m.due("out(" + i + ")", m.x.out(i), i < before ? '.' : (bytes[w] + bytes[w]).charAt(i - before));
        }
        m.taken("it goes on", m.x.word(0, 0), 5);
      }
    }
    Mill m = new Mill("out(i)");
    m.begin("MODULE M; BEGIN WRITECHAR(CHR(0)); WRITECHAR(CHR(255)); WRITECHAR(CHR(128)) END M.");
    m.due("out(0), nothing written", m.x.out(0), -1);
    m.taken("run(9)", m.x.run(9), HALTED);
    int[] due = {-1, 0, 255, 128, -1};
    for (int i = -1; i <= 3; i++) {
      m.due("out(" + i + ")", m.x.out(i), due[i + 1]);
    }
    m.due("out(the most)", m.x.out(Integer.MAX_VALUE), -1);
    m.due("out(the least)", m.x.out(Integer.MIN_VALUE), -1);
  }

  /** READINT: the next number of IN, 0 behind its end. */
  private static void inAtItsEnd() {
    Mill m = new Mill("IN");
    m.begin("MODULE M; VAR i, n: INTEGER; BEGIN LOOP i := 7; READINT(i); INC(n) END END M.");
    for (int i = 1; i < 100; i++) {
      m.due("give " + i, m.x.give(1000 + i), i);
    }
    m.taken("give 100", m.x.give(-32768), 100);
    m.denied("give 101", () -> m.x.give(1), 3);
    m.denied("give(32768), full: a number not as told comes first", () -> m.x.give(32768), 1);
    m.due("seen(6)", m.x.seen(6), 100);
    for (int i = 1; i <= 103; i++) {
      m.due("to the next READINT", m.x.run(i == 1 ? 3 : 4), 0);
      m.due("word i", m.x.word(0, 0), i < 100 ? 1000 + i : i == 100 ? -32768 : 0);
      m.due("seen(6)", m.x.seen(6), Math.max(0, 100 - i));
    }
    m.denied("give 101: they are kept though they were read", () -> m.x.give(1), 3);
    Mill edges = new Mill("give(v)");
    edges.denied("give(32768)", () -> edges.x.give(32768), 1);
    edges.denied("give(-32769)", () -> edges.x.give(-32769), 1);
    edges.denied("give(the most)", () -> edges.x.give(Integer.MAX_VALUE), 1);
    edges.denied("give(the least)", () -> edges.x.give(Integer.MIN_VALUE), 1);
    edges.taken("give(32767)", edges.x.give(32767), 1);
    edges.taken("give(-32768)", edges.x.give(-32768), 2);
    edges.taken("give(0)", edges.x.give(0), 3);
    edges.begin("MODULE M; VAR i, j, k, l: INTEGER; BEGIN READINT(i); READINT(j); READINT(k); l := 5; READINT(l) END M.");
    edges.taken("run(9)", edges.x.run(9), HALTED);
    int[] due = {32767, -32768, 0, 0};
    for (int i = 0; i < 4; i++) {
      edges.taken("word(0, " + i + ")", edges.x.word(0, i), due[i]);
    }
    edges.taken("give(5) behind the end", edges.x.give(5), 4);
    edges.due("seen(6)", edges.x.seen(6), 1);
  }

  /** A TRAP ends all: what stood is there still, and nothing goes on. */
  private static void allThatTraps() {
    String[] traps = {"k := 32767 + j", "k := 1 DIV i", "k := a[i + 2]", "k := ORD(CHR(j + 255))", "deep", "k := none()", "TRANSFER(p, q)",
        "CLOSEFILE(i)"};
    for (int trap = 1; trap <= 8; trap++) {
      Mill m = new Mill("TRAP " + trap);
      m.begin("MODULE M; VAR i, j, k, n: INTEGER; a: ARRAY 2 OF INTEGER; p, q: PROCESS; PROCEDURE deep; BEGIN deep END deep; "
          + "PROCEDURE none(): INTEGER; END none; BEGIN j := 1; k := 3; WRITECHAR(\"o\"); " + traps[trap - 1] + "; n := 9; WRITECHAR(\"x\") END M.");
      m.taken("run(3)", m.x.run(3), 0);
      m.taken("run(20000)", m.x.run(20000), 10 + trap);
      int steps = m.x.seen(0);
      m.taken("run(20000)", m.x.run(20000), 10 + trap);
      m.taken("run(0)", m.x.run(0), 10 + trap);
      m.due("STEPS", m.x.seen(0), steps);
      m.taken("word k", m.x.word(0, 2), 3);
      m.taken("word n", m.x.word(0, 3), 0);
      m.dueText("OUT", m.out(), "o");
      m.taken("start()", m.x.start(), 8);
      m.taken("run(3)", m.x.run(3), 0);
    }
  }
}
