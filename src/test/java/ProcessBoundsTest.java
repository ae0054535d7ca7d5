/** '3 THE MACHINE': PROCESSES, from the first to the eighth, and the CLOCK with the STEP that is n times its number. */
final class ProcessBoundsTest {
  private static final int HALTED = 1;
  private static final String HEAD = "MODULE M; VAR m, p, q: PROCESS; n: INTEGER; a: ARRAY 9 OF PROCESS; ";

  public static void main(String[] args) {
    eightProcesses();
    handedToNone();
    endOfAProcess();
    ioTransferTraps();
    clockNumbers();
    clockComesWithEachMultiple();
    clockFromNowOn();
    clockStays();
    clockAndNoOne();
    clockAndTheSecondPlace();
    Mill.end();
  }

  private static void eightProcesses() {
    for (int more = 0; more <= 9; more++) {
      Mill m = new Mill(more + " PROCESSES more");
      m.begin(HEAD + "PROCEDURE one; BEGIN LOOP END END one; BEGIN FOR n := 1 TO " + more + " DO NEWPROCESS(one, 16, a[n - 1]) END END M.");
      m.due("PROCESSES at the beginning", m.x.seen(5), 1);
      m.taken("run(99)", m.x.run(99), more <= 7 ? HALTED : 17);
      m.due("PROCESSES", m.x.seen(5), Math.min(8, more + 1));
      for (int i = 0; i < 9; i++) {
        m.taken("the PLACE of number " + (i + 2), m.x.word(0, 4 + i), i < Math.min(more, 7) ? i + 2 : 0);
      }
      m.due("the first one runs", m.x.seen(2), 1);
    }
    Mill each = new Mill("each of the eight has its own words");
    each.ends(HEAD + "PROCEDURE count; VAR i: INTEGER; me: INTEGER; BEGIN me := n; LOOP INC(i); WRITEINT(me * 10 + i); "
        + "TRANSFER(a[me], m) END END count; BEGIN FOR n := 1 TO 7 DO NEWPROCESS(count, 400, a[n]); TRANSFER(m, a[n]) END; "
        + "FOR n := 7 TO 1 BY -1 DO TRANSFER(m, a[n]) END END M.", HALTED, "1121314151617172625242322212");
    each.due("PROCESSES", each.x.seen(5), 8);
    Mill all = new Mill("all words of all eight");
    all.begin(HEAD + "PROCEDURE fill(VAR x: ARRAY 280 OF INTEGER; k: INTEGER); VAR i: INTEGER; BEGIN FOR i := 0 TO 279 DO x[i] := x[i] * 2 + k + i "
        + "END END fill; PROCEDURE sum(VAR x: ARRAY 280 OF INTEGER; k: INTEGER): INTEGER; VAR i, s: INTEGER; BEGIN FOR i := 0 TO 279 DO "
        + "IF x[i] = k + i THEN INC(s) END END; RETURN s END sum; PROCEDURE count; VAR x: ARRAY 280 OF INTEGER; me: INTEGER; BEGIN me := n; "
        + "fill(x, me * 1000); TRANSFER(a[me], m); WRITEINT(sum(x, me * 1000)); WRITECHAR(\" \"); TRANSFER(a[me], m) END count; PROCEDURE first; "
        + "VAR x: ARRAY 280 OF INTEGER; BEGIN fill(x, 9000); FOR n := 1 TO 7 DO NEWPROCESS(count, 400, a[n]); TRANSFER(m, a[n]) END; "
        + "FOR n := 7 TO 1 BY -1 DO TRANSFER(m, a[n]) END; WRITEINT(sum(x, 9000)) END first; BEGIN first END M.");
    all.taken("run(20000)", all.x.run(20000), HALTED);
    all.dueText("what each of them has", all.out(), Mill.times(7, "280 ") + "280");
  }

  private static void handedToNone() {
    Mill none = new Mill("TRAP 7: none");
    none.ends(HEAD + "BEGIN WRITECHAR(\"a\"); TRANSFER(m, q); WRITECHAR(\"b\") END M.", 17, "a");
    none.due("the first one runs", none.x.seen(2), 1);
    Mill same = new Mill("it may be the same one");
    same.ends(HEAD + "PROCEDURE one; BEGIN TRANSFER(q, m) END one; BEGIN NEWPROCESS(one, 16, p); TRANSFER(m, p); TRANSFER(m, m); "
        + "WRITECHAR(\"b\") END M.", HALTED, "b");
    same.due("PROCESSES", same.x.seen(5), 2);
    same.due("the PLACE", same.x.word(0, 0), 1);
  }

  private static void endOfAProcess() {
    String[] ends = {"", "BEGIN ", "BEGIN RETURN ", "BEGIN WRITECHAR(\"e\"); RETURN; HALT ", "BEGIN FOR n := 1 TO 3 DO RETURN END "};
    for (String end : ends) {
      Mill m = new Mill("as P ends there is TRAP 7");
      m.begin(HEAD + "PROCEDURE one; VAR l: ARRAY 5 OF CHAR; " + end + "END one; BEGIN NEWPROCESS(one, 16, p); TRANSFER(m, p); HALT END M.");
      m.taken("run(99)", m.x.run(99), 17);
      m.due("it was the one that runs", m.x.seen(2), 2);
      m.due("its words are free then", m.x.seen(4), 0);
    }
    Mill not = new Mill("a call within it may end");
    not.ends(HEAD + "PROCEDURE two; BEGIN WRITECHAR(\"2\") END two; PROCEDURE one; BEGIN two; two; TRANSFER(p, m) END one; "
        + "BEGIN NEWPROCESS(one, 16, p); TRANSFER(m, p); WRITECHAR(\"m\") END M.", HALTED, "22m");
    Mill first = new Mill("the first one ends and it HALTS");
    first.ends(HEAD + "PROCEDURE one; BEGIN LOOP END END one; BEGIN NEWPROCESS(one, 16, p) END M.", HALTED, "");
  }

  /** TRAP 7, ahead of all: one waits already, the second one has none or this PROCESS. */
  private static void ioTransferTraps() {
    Mill none = new Mill("the second one has none");
    none.begin(HEAD + "BEGIN IOTRANSFER(p, q) END M.");
    none.taken("run(9)", none.x.run(9), 17);
    none.taken("the first PLACE is as it was", none.x.word(0, 1), 0);
    none.due("no one waits", none.x.seen(3), 0);
    Mill itself = new Mill("the second one has this PROCESS");
    itself.begin(HEAD + "PROCEDURE one; BEGIN TRANSFER(p, m) END one; BEGIN NEWPROCESS(one, 16, p); TRANSFER(m, p); IOTRANSFER(q, m) END M.");
    itself.taken("run(9)", itself.x.run(9), 17);
    itself.taken("the first PLACE is as it was", itself.x.word(0, 2), 0);
    itself.due("no one waits", itself.x.seen(3), 0);
    Mill waits = new Mill("one waits already");
    waits.begin(HEAD + "PROCEDURE one; BEGIN IOTRANSFER(q, m) END one; PROCEDURE two; BEGIN IOTRANSFER(a[0], m) END two; "
        + "BEGIN NEWPROCESS(one, 16, p); NEWPROCESS(two, 16, q); TRANSFER(m, p); NEWPROCESS(two, 16, p); TRANSFER(m, p) END M.");
    waits.taken("run(99)", waits.x.run(99), 17);
    waits.due("it waits still", waits.x.seen(3), 2);
    waits.due("the one that runs", waits.x.seen(2), 4);
    waits.taken("the first PLACE is as it was", waits.x.word(0, 4), 0);
    Mill right = new Mill("no TRAP");
    right.begin(HEAD + "PROCEDURE one; BEGIN IOTRANSFER(q, m) END one; BEGIN NEWPROCESS(one, 16, p); TRANSFER(m, p); LOOP END END M.");
    right.taken("run(99)", right.x.run(99), 0);
    right.due("it waits", right.x.seen(3), 2);
    right.due("the one that runs", right.x.seen(2), 1);
    right.taken("the first PLACE", right.x.word(0, 2), 2);
    Mill again = new Mill("waiting no more, it may wait once more");
    again.x.clock(5);
    again.begin(HEAD + "PROCEDURE one; BEGIN LOOP IOTRANSFER(q, m); WRITECHAR(\"t\") END END one; "
        + "BEGIN NEWPROCESS(one, 16, p); TRANSFER(m, p); LOOP END END M.");
    again.taken("run(99)", again.x.run(99), 0);
    again.due("bytes of OUT", again.x.seen(1) > 5 ? 1 : 0, 1);
  }

  private static void clockNumbers() {
    Mill m = new Mill("clock(n)");
    m.taken("clock(0)", m.x.clock(0), 0);
    m.taken("clock(1)", m.x.clock(1), 1);
    m.taken("clock(999)", m.x.clock(999), 999);
    m.taken("clock(1000)", m.x.clock(1000), 1000);
    m.denied("clock(1001)", () -> m.x.clock(1001), 1);
    m.denied("clock(-1)", () -> m.x.clock(-1), 1);
    m.denied("clock(the most)", () -> m.x.clock(Integer.MAX_VALUE), 1);
    m.denied("clock(the least)", () -> m.x.clock(Integer.MIN_VALUE), 1);
  }

  /** Its STEPS are 1 NEWPROCESS, 2 TRANSFER, 3 IOTRANSFER, 4 LOOP, then INC with each odd one, LOOP again with each even one. */
  private static String ticking() {
    return HEAD + "PROCEDURE e; BEGIN IOTRANSFER(p, q); LOOP END END e; BEGIN NEWPROCESS(e, 16, p); TRANSFER(q, p); LOOP INC(n) END END M.";
  }

  private static void comesWith(Mill m, int step) {
    m.taken("run to the STEP ahead of it", m.x.run(step - 1 - m.x.seen(0)), 0);
    m.due("the first one runs", m.x.seen(2), 1);
    m.due("one waits", m.x.seen(3), 2);
    m.taken("word n", m.x.word(0, 3), Math.max(0, (step - 1 - 3) / 2));
    m.taken("run(1)", m.x.run(1), 0);
    m.due("STEPS", m.x.seen(0), step);
    m.due("the one that waited runs", m.x.seen(2), 2);
    m.due("waiting no more", m.x.seen(3), 0);
    m.taken("ahead of what the STEP does", m.x.word(0, 3), Math.max(0, (step - 1 - 3) / 2));
    m.taken("the second PLACE", m.x.word(0, 2), 1);
    m.taken("run(50)", m.x.run(50), 0);
    m.due("it runs still", m.x.seen(2), 2);
  }

  private static void clockComesWithEachMultiple() {
    for (int number = 1; number <= 40; number++) {
      Mill m = new Mill("the CLOCK's number is " + number);
      m.taken("clock", m.x.clock(number), number);
      m.begin(ticking());
      m.x.run(4 - 1);
      comesWith(m, (4 + number - 1) / number * number);
    }
    for (int number : new int[] {999, 1000}) {
      Mill m = new Mill("the CLOCK's number is " + number);
      m.x.clock(number);
      m.begin(ticking());
      comesWith(m, number);
    }
    Mill never = new Mill("0: never");
    never.taken("clock(0)", never.x.clock(0), 0);
    never.begin(ticking());
    never.taken("run(20000)", never.x.run(20000), 0);
    never.due("one waits", never.x.seen(3), 2);
    never.due("the first one runs", never.x.seen(2), 1);
    Mill at = new Mill("with the STEP of IOTRANSFER itself no one waits yet");
    at.x.clock(3);
    at.begin(ticking());
    comesWith(at, 6);
  }

  private static void clockFromNowOn() {
    for (int number = 1; number <= 25; number++) {
      Mill m = new Mill("clock(" + number + ") behind 10 STEPS");
      m.begin(ticking());
      m.taken("run(10)", m.x.run(10), 0);
      m.taken("clock", m.x.clock(number), number);
      comesWith(m, 10 / number * number + number);
    }
    Mill off = new Mill("clock(0) behind 19 STEPS");
    off.x.clock(20);
    off.begin(ticking());
    off.taken("run(19)", off.x.run(19), 0);
    off.taken("clock(0)", off.x.clock(0), 0);
    off.taken("run(500)", off.x.run(500), 0);
    off.due("one waits", off.x.seen(3), 2);
    Mill refused = new Mill("what is refused changes nothing");
    refused.x.clock(20);
    refused.begin(ticking());
    refused.taken("run(10)", refused.x.run(10), 0);
    refused.denied("clock(1001)", () -> refused.x.clock(1001), 1);
    comesWith(refused, 20);
  }

  /** start(), link() and fresh() leave the CLOCK as it is; STEPS begin with 0 once more. */
  private static void clockStays() {
    Mill m = new Mill("the CLOCK stays");
    m.x.clock(9);
    m.begin(ticking());
    comesWith(m, 9);
    m.taken("start()", m.x.start(), 13);
    comesWith(m, 9);
    m.taken("link(0)", m.x.link(0), 1);
    m.taken("start()", m.x.start(), 13);
    comesWith(m, 9);
    m.taken("fresh()", m.x.fresh(), 0);
    m.taken("start()", m.x.start(), 13);
    comesWith(m, 9);
  }

  private static void clockAndNoOne() {
    for (int number = 1; number <= 3; number++) {
      Mill m = new Mill("the CLOCK comes and no one waits");
      m.x.clock(number);
      m.begin("MODULE M; VAR i: INTEGER; BEGIN FOR i := 1 TO 9 DO WRITEINT(i) END END M.");
      m.taken("run(99)", m.x.run(99), HALTED);
      m.dueText("OUT", m.out(), "123456789");
      m.due("STEPS", m.x.seen(0), 19);
    }
  }

  private static void clockAndTheSecondPlace() {
    Mill m = new Mill("the second PLACE becomes the PROCESS that runs");
    m.begin(HEAD + "PROCEDURE e; BEGIN LOOP IOTRANSFER(p, a[8]); WRITECHAR(\"e\"); n := 0 END END e; PROCEDURE f; BEGIN LOOP WRITECHAR(\"f\") "
        + "END END f; BEGIN NEWPROCESS(e, 16, p); NEWPROCESS(f, 16, q); a[8] := q; TRANSFER(m, p) END M.");
    m.taken("clock(10)", m.x.clock(10), 10);
    m.taken("run(9)", m.x.run(9), 0);
    m.due("the third one runs", m.x.seen(2), 3);
    m.due("the second one waits", m.x.seen(3), 2);
    m.taken("a[8]", m.x.word(0, 12), 3);
    m.taken("p", m.x.word(0, 1), 2);
    m.taken("run(1)", m.x.run(1), 0);
    m.due("the second one runs", m.x.seen(2), 2);
    m.taken("a[8]", m.x.word(0, 12), 3);
    m.taken("run(99)", m.x.run(99), 0);
    m.taken("the first one, handed from, is kept", m.x.word(0, 0), 1);
  }
}
