/** Processes and the CLOCK: promises 9, 10, 12. */
final class ProcessTest {
  private static final String HEAD = "MODULE M; VAR m, p, q, r: PROCESS; n: INTEGER; a: ARRAY 3 OF PROCESS; ";

  public static void main(String[] args) {
    making();
    handing();
    ending();
    inputOutput();
    clock();
    waiting();
    Mill.end();
  }

  private static void making() {
    Mill m = new Mill("NEWPROCESS");
    String one = HEAD + "PROCEDURE one; VAR x: ARRAY 8 OF CHAR; BEGIN TRANSFER(p, m) END one; ";
    m.ends(one + "BEGIN NEWPROCESS(one, 15, p) END M.", 17, "");
    m.due("word p", m.x.word(0, 1), 0);
    m.due("PROCESSES", m.x.seen(5), 1);
    m.ends(one + "BEGIN NEWPROCESS(one, 401, p) END M.", 17, "");
    m.ends(one + "BEGIN NEWPROCESS(one, -20, p) END M.", 17, "");
    m.ends(one + "BEGIN NEWPROCESS(one, 400, p); NEWPROCESS(one, 16, q) END M.", 1, "");
    m.due("word p", m.x.word(0, 1), 2);
    m.due("word q", m.x.word(0, 2), 3);
    m.due("PROCESSES", m.x.seen(5), 3);
    m.due("a PROCESS that was made does not run", m.x.seen(2), 1);
    m.ends(one + "BEGIN FOR n := 1 TO 9 DO NEWPROCESS(one, 16, a[n MOD 3]); WRITEINT(n) END END M.", 17, "1234567");
    m.due("PROCESSES", m.x.seen(5), 8);
    m.due("the last one", m.x.word(0, 6), 8);
    m.ends(one + "BEGIN NEWPROCESS(one, 9, a[7]) END M.", 13, "");
    m.ends(one + "BEGIN NEWPROCESS(one, 16, p); TRANSFER(m, p); WRITECHAR(\"!\") END M.", 1, "!");
    String two = HEAD + "PROCEDURE two; VAR x: ARRAY 9 OF CHAR; BEGIN TRANSFER(p, m) END two; ";
    m.ends(two + "BEGIN NEWPROCESS(two, 16, p); WRITECHAR(\"a\"); TRANSFER(m, p); WRITECHAR(\"!\") END M.", 15, "a");
    m.due("the one that runs", m.x.seen(2), 2);
    m.due("words in use", m.x.seen(4), 0);
    m.due("STEPS", m.x.seen(0), 3);
    m.ends(two + "PROCEDURE deep; BEGIN INC(n); deep END deep; BEGIN NEWPROCESS(deep, 40, p); TRANSFER(m, p) END M.", 15, "");
    m.due("calls", m.x.word(0, 4), 5);
    m.due("words in use", m.x.seen(4), 40);
  }

  private static void handing() {
    Mill m = new Mill("TRANSFER");
    String ping = HEAD + "PROCEDURE ping; VAR i: INTEGER; BEGIN LOOP INC(i); WRITEINT(i); TRANSFER(p, m) END END ping; ";
    m.ends(ping + "BEGIN NEWPROCESS(ping, 20, p); FOR n := 1 TO 3 DO WRITECHAR(\"m\"); TRANSFER(m, p) END END M.", 1, "m1m2m3");
    m.due("it has its own words", m.x.seen(4), 0);
    m.ends(ping + "BEGIN NEWPROCESS(ping, 20, p); NEWPROCESS(ping, 20, q); TRANSFER(m, p); TRANSFER(m, q); TRANSFER(m, p) END M.", 1,
        "112");
    m.ends(HEAD + "BEGIN TRANSFER(m, p) END M.", 17, "");
    m.ends(HEAD + "BEGIN TRANSFER(a[3], p) END M.", 13, "");
    m.ends(HEAD + "PROCEDURE f(): PROCESS; BEGIN WRITECHAR(\"f\"); RETURN p END f; PROCEDURE g(): INTEGER; BEGIN WRITECHAR(\"g\"); "
        + "RETURN 1 END g; BEGIN TRANSFER(a[g()], f()) END M.", 17, "gf");
    m.ends(ping + "BEGIN NEWPROCESS(ping, 20, p); TRANSFER(m, p); TRANSFER(q, m); WRITECHAR(\"s\") END M.", 1, "1s");
    m.due("to the same one", m.x.word(0, 2), 1);
    m.ends(ping + "BEGIN NEWPROCESS(ping, 20, p); m := p; TRANSFER(m, m); WRITECHAR(\"s\") END M.", 1, "1s");
    m.ends(HEAD + "VAR z: INTEGER; PROCEDURE f(): INTEGER; BEGIN TRANSFER(m, p); RETURN 5 END f; PROCEDURE w; BEGIN WRITEINT(2 * 3 + z); "
        + "TRANSFER(p, m) END w; BEGIN NEWPROCESS(w, 20, p); z := 1 + f() * 2; WRITEINT(z) END M.", 1, "611");
    m.begin(ping + "BEGIN NEWPROCESS(ping, 20, p); TRANSFER(m, p) END M.");
    m.due("run(2)", m.x.run(2), 0);
    m.due("its call has no STEP", m.x.seen(0), 2);
    m.due("the one that runs", m.x.seen(2), 2);
    m.due("words in use", m.x.seen(4), 9);
    m.due("word m", m.x.word(0, 0), 1);
    Mill local = new Mill("a PLACE of a procedure");
    local.ends(HEAD + "PROCEDURE back; BEGIN TRANSFER(q, m) END back; PROCEDURE go; VAR l: PROCESS; BEGIN NEWPROCESS(back, 20, l); "
        + "p := l; TRANSFER(m, l); WRITECHAR(\"b\") END go; BEGIN go END M.", 1, "b");
  }

  private static void ending() {
    Mill m = new Mill("a PROCESS that ends");
    m.ends(HEAD + "PROCEDURE e; VAR x: CHAR; BEGIN WRITECHAR(\"e\") END e; BEGIN NEWPROCESS(e, 20, p); TRANSFER(m, p); WRITECHAR(\"m\") "
        + "END M.", 17, "e");
    m.due("the one that runs", m.x.seen(2), 2);
    m.due("its words are free", m.x.seen(4), 0);
    m.ends(HEAD + "PROCEDURE e; BEGIN RETURN END e; BEGIN NEWPROCESS(e, 20, p); TRANSFER(m, p) END M.", 17, "");
    m.ends(HEAD + "PROCEDURE e; BEGIN HALT END e; BEGIN NEWPROCESS(e, 20, p); TRANSFER(m, p) END M.", 1, "");
    m.due("the one that ran", m.x.seen(2), 2);
    m.due("its words", m.x.seen(4), 8);
    m.ends(HEAD + "PROCEDURE e; BEGIN e END e; BEGIN NEWPROCESS(e, 20, p); WRITECHAR(\"m\") END M.", 1, "m");
    m.x.start();
    m.due("PROCESSES at the beginning", m.x.seen(5), 1);
    m.due("the one that runs", m.x.seen(2), 1);
  }

  private static void inputOutput() {
    Mill m = new Mill("IOTRANSFER");
    m.x.clock(3);
    m.ends(HEAD + "BEGIN IOTRANSFER(m, p) END M.", 17, "");
    m.due("word m: TRAP 7 is ahead of all", m.x.word(0, 0), 0);
    m.ends(HEAD + "PROCEDURE e; BEGIN IOTRANSFER(q, p) END e; BEGIN NEWPROCESS(e, 20, p); TRANSFER(m, p) END M.", 17, "");
    m.due("to itself", m.x.word(0, 2), 0);
    m.ends(HEAD + "BEGIN IOTRANSFER(a[3], p) END M.", 13, "");
    m.ends(HEAD + "BEGIN IOTRANSFER(p, a[3]) END M.", 13, "");
    m.x.clock(0);
    m.ends(HEAD + "PROCEDURE e; BEGIN IOTRANSFER(p, m); WRITECHAR(\"e\") END e; PROCEDURE f; BEGIN IOTRANSFER(r, m) END f; "
        + "BEGIN NEWPROCESS(e, 20, p); NEWPROCESS(f, 20, q); TRANSFER(m, p); WRITECHAR(\"1\"); TRANSFER(m, q); WRITECHAR(\"2\") END M.",
        17, "1");
    m.due("one waits already", m.x.seen(3), 2);
    m.due("word r", m.x.word(0, 3), 0);
    m.begin(HEAD + "PROCEDURE e; BEGIN IOTRANSFER(q, m); WRITECHAR(\"e\"); TRANSFER(r, m) END e; "
        + "BEGIN NEWPROCESS(e, 20, p); TRANSFER(m, p); n := 1; n := 2; n := 3 END M.");
    m.x.clock(6);
    m.due("run(3)", m.x.run(3), 0);
    m.due("the one that waits", m.x.seen(3), 2);
    m.due("the one that runs", m.x.seen(2), 1);
    m.due("word q", m.x.word(0, 2), 2);
    m.due("word m", m.x.word(0, 0), 1);
    m.due("run(2)", m.x.run(2), 0);
    m.due("the CLOCK has not come", m.x.seen(3), 2);
    m.due("run(1)", m.x.run(1), 0);
    m.due("the CLOCK came", m.x.seen(3), 0);
    m.due("the one that runs", m.x.seen(2), 2);
    m.due("ahead of what the STEP does", m.x.word(0, 4), 2);
    m.due("run(1)", m.x.run(1), 0);
    m.due("run(1)", m.x.run(1), 1);
    m.due("what the STEP does", m.x.word(0, 4), 3);
    m.due("it is counted once", m.x.seen(0), 8);
    m.dueText("OUT", m.out(), "e");
  }

  private static void clock() {
    Mill m = new Mill("the CLOCK");
    String tick = HEAD + "PROCEDURE e; BEGIN LOOP IOTRANSFER(p, m); WRITECHAR(\"t\") END END e; "
        + "BEGIN NEWPROCESS(e, 20, p); TRANSFER(m, p); FOR n := 1 TO 10 DO WRITECHAR(\".\") END END M.";
    m.ends(tick, 1, "..........");
    m.x.clock(10);
    m.ends(tick, 1, "..t....t...t.");
    m.x.clock(1000);
    m.ends(tick, 1, "..........");
    m.begin(tick);
    m.due("run(10)", m.x.run(10), 0);
    m.x.clock(7);
    m.due("run(99)", m.x.run(99), 1);
    m.dueText("from now on", m.out(), "....t..t..t..");
    Mill body = new Mill("the CLOCK in an EXPRESSION");
    body.x.clock(6);
    body.ends(HEAD + "PROCEDURE f(x: INTEGER): INTEGER; BEGIN RETURN x + n END f; PROCEDURE e; BEGIN IOTRANSFER(p, m); n := 100; "
        + "TRANSFER(p, m) END e; BEGIN NEWPROCESS(e, 20, p); TRANSFER(m, p); WRITECHAR(\"a\"); WRITEINT(7 + f(1) * 2); WRITEINT(n) END M.",
        1, "a209100");
    Mill each = new Mill("the CLOCK with each STEP");
    each.x.clock(1);
    each.begin(HEAD + "PROCEDURE e; BEGIN IOTRANSFER(p, m); WRITECHAR(\"t\"); TRANSFER(q, m) END e; "
        + "BEGIN NEWPROCESS(e, 20, p); TRANSFER(m, p); WRITECHAR(\".\"); WRITECHAR(\".\") END M.");
    each.due("run(4)", each.x.run(4), 0);
    each.due("the one that runs", each.x.seen(2), 2);
    each.due("run(99)", each.x.run(99), 1);
    each.dueText("OUT", each.out(), "t..");
    Mill none = new Mill("no one waits");
    none.x.clock(1);
    none.does("FOR i := 1 TO 3 DO WRITEINT(i) END", 1, "123");
  }

  private static void waiting() {
    Mill m = new Mill("one that waits and is handed to");
    m.x.clock(20);
    m.begin(HEAD + "PROCEDURE e; BEGIN IOTRANSFER(q, m); LOOP WRITECHAR(\"e\") END END e; "
        + "BEGIN NEWPROCESS(e, 20, p); TRANSFER(m, p); WRITECHAR(\"m\"); TRANSFER(r, p) END M.");
    m.due("run(9)", m.x.run(9), 0);
    m.due("it goes on", m.x.seen(2), 2);
    m.due("waiting still", m.x.seen(3), 2);
    m.due("run(10)", m.x.run(10), 0);
    m.due("word m", m.x.word(0, 0), 1);
    m.due("run(1)", m.x.run(1), 0);
    m.due("waiting no more", m.x.seen(3), 0);
    m.due("the one that runs", m.x.seen(2), 2);
    m.due("the second PLACE", m.x.word(0, 0), 2);
    Mill first = new Mill("the first PROCESS waits");
    first.x.clock(6);
    first.begin(HEAD + "PROCEDURE e; BEGIN LOOP INC(n) END END e; BEGIN NEWPROCESS(e, 20, p); IOTRANSFER(m, p); WRITEINT(n); "
        + "IOTRANSFER(m, p); WRITEINT(n) END M.");
    first.due("run(2)", first.x.run(2), 0);
    first.due("the one that waits", first.x.seen(3), 1);
    first.due("run(99)", first.x.run(99), 1);
    first.dueText("OUT", first.out(), "13");
    first.due("word p", first.x.word(0, 1), 2);
    Mill other = new Mill("the first PROCESS waits already");
    other.begin(HEAD + "PROCEDURE e; BEGIN IOTRANSFER(q, m) END e; BEGIN NEWPROCESS(e, 20, p); IOTRANSFER(m, p) END M.");
    other.due("run(99)", other.x.run(99), 17);
    other.due("word q", other.x.word(0, 2), 0);
    Mill twice = new Mill("it can't wait twice");
    twice.ends(HEAD + "PROCEDURE e; BEGIN LOOP WRITECHAR(\"e\"); IOTRANSFER(q, m) END END e; "
        + "BEGIN NEWPROCESS(e, 20, p); TRANSFER(m, p); TRANSFER(r, p) END M.", 17, "ee");
    Mill index = new Mill("the second PLACE is the one that was meant then");
    index.x.clock(9);
    index.begin(HEAD + "PROCEDURE e; BEGIN n := 1; a[n] := m; IOTRANSFER(a[n - 1], a[n]); WRITECHAR(\"e\"); HALT END e; "
        + "BEGIN NEWPROCESS(e, 20, p); TRANSFER(m, p); n := 2; m := p; LOOP END END M.");
    index.due("run(5)", index.x.run(5), 0);
    index.due("the first PLACE", index.x.word(0, 5), 2);
    index.due("the second PLACE", index.x.word(0, 6), 1);
    index.due("run(99)", index.x.run(3), 0);
    index.x.clock(0);
    index.due("the CLOCK that never comes", index.x.run(99), 0);
    index.x.clock(9);
    index.due("run(99)", index.x.run(99), 1);
    index.dueText("OUT", index.out(), "e");
    index.due("the second PLACE", index.x.word(0, 6), 1);
    index.due("no other one", index.x.word(0, 0), 2);
    index.due("no other one", index.x.word(0, 7), 0);
    Mill same = new Mill("both PLACES are the same");
    same.x.clock(7);
    same.begin(HEAD + "PROCEDURE e; BEGIN IOTRANSFER(m, m); WRITECHAR(\"e\"); HALT END e; "
        + "BEGIN NEWPROCESS(e, 20, p); TRANSFER(m, p); LOOP END END M.");
    same.due("run(3)", same.x.run(3), 0);
    same.due("the first one is set", same.x.word(0, 0), 2);
    same.due("run(99)", same.x.run(99), 1);
    same.due("then the second one, by the CLOCK", same.x.word(0, 0), 1);
    same.dueText("OUT", same.out(), "e");
  }
}
