/** Promises 1, 2, 4, 10, 11, 12, 13, 19, 20: what is there at first, and what is refused. */
final class FaceTest {
  public static void main(String[] args) {
    newObject();
    tape();
    wrong();
    clockAndIn();
    seen();
    out();
    fresh();
    status();
    Mill.end();
  }

  private static void newObject() {
    Mill m = new Mill("a new object");
    m.due("status()", m.x.status(), 0);
    for (int what = 0; what <= 7; what++) {
      m.due("seen(" + what + ")", m.x.seen(what), 0);
    }
    m.due("seen(8)", m.x.seen(8), -1);
    m.due("seen(-1)", m.x.seen(-1), -1);
    m.due("out(0)", m.x.out(0), -1);
    m.due("sector(0)", m.x.sector(0), 0);
    m.due("status() behind seen, out, sector", m.x.status(), 0);
    m.refused("wrong(0)", m.x.wrong(0), 2);
    m.refused("wrong(4)", m.x.wrong(4), 1);
    m.refused("wrong(-1)", m.x.wrong(-1), 1);
    m.refused("unit(0, 0)", m.x.unit(0, 0), 2);
    m.refused("unit(0, 9)", m.x.unit(0, 9), 2);
    m.refused("link(0)", m.x.link(0), 2);
    m.refused("linked(0)", m.x.linked(0), 4);
    m.refused("start()", m.x.start(), 4);
    m.refused("run(0)", m.x.run(0), 4);
    m.refused("run(-1)", m.x.run(-1), 1);
    m.refused("run(20001)", m.x.run(20001), 1);
    m.refused("word(0, 0)", m.x.word(0, 0), 4);
    m.refused("file(0, 0)", m.x.file(0, 0), 2);
    m.refused("file(0, -1)", m.x.file(0, -1), 2);
    m.refused("read(0, 0)", m.x.read(0, 0), 2);
    m.refused("name(0, 0)", m.x.name(0, 0), 2);
    m.refused("compile(1)", m.x.compile(1), 1);
    m.refused("compile(-1)", m.x.compile(-1), 1);
    m.refused("wrong(0): a refused compile() is none", m.x.wrong(0), 2);
    m.taken("fresh()", m.x.fresh(), 0);
    m.taken("compile(0)", m.x.compile(0), 1);
    m.taken("wrong(1)", m.x.wrong(1), 0);
    m.taken("wrong(2)", m.x.wrong(2), -1);
    m.taken("wrong(3)", m.x.wrong(3), 0);
  }

  private static void tape() {
    Mill m = new Mill("the TAPE");
    for (int i = 1; i <= 100; i++) {
      m.taken("feed " + i, m.x.feed(0, 0, 0, 0, 0), 40 * i);
    }
    m.refused("feed 101", m.x.feed(0, 0, 0, 0, 0), 3);
    m.refused("compile(4001)", m.x.compile(4001), 1);
    m.taken("compile(4000)", m.x.compile(4000), 1);
    m.taken("the TAPE is empty then", m.x.feed(0, 0, 0, 0, 0), 40);
    m.refused("compile(41)", m.x.compile(41), 1);
    m.taken("a refused compile() leaves it", m.x.feed(0, 0, 0, 0, 0), 80);
    m.taken("compile(0) empties it", m.x.compile(0), 1);
    m.refused("compile(1)", m.x.compile(1), 1);

    Mill order = new Mill("bytes, the highest first");
    // "MODULE A" "; VAR x:" " CHAR; E" "ND A.   " and bytes that begin no word
    order.taken("feed", order.x.feed(0x4D4F44554C452041L, 0x3B2056415220783AL, 0x20434841523B2045L,
        0x4E4420412E202020L, -1L), 40);
    order.taken("compile(29)", order.x.compile(29), 0);
    order.feed("MODULE A; END A.");
    order.taken("only the first n bytes count", order.x.compile(15), 1);
    order.taken("wrong(1)", order.x.wrong(1), 15);

    Mill full = new Mill("a unit of 4000 bytes");
    StringBuilder text = new StringBuilder("MODULE A;");
    while (text.length() < 3993) {
      text.append(' ');
    }
    full.right(text + " END A.");
  }

  private static void wrong() {
    Mill m = new Mill("wrong()");
    m.right("MODULE A; END A.");
    m.taken("wrong(0)", m.x.wrong(0), 0);
    m.taken("wrong(1)", m.x.wrong(1), 0);
    m.taken("wrong(2)", m.x.wrong(2), 0);
    m.taken("wrong(3)", m.x.wrong(3), 1);
    m.right("DEFINITION MODULE B; END B.");
    m.taken("wrong(2)", m.x.wrong(2), 1);
    m.right("MODULE A; VAR x: CHAR; END A.");
    m.taken("wrong(2)", m.x.wrong(2), 0);
    m.taken("wrong(3)", m.x.wrong(3), 2);
    m.wrong(3, "MODULE C; END ^A.");
    m.taken("wrong(3): a NAME that was WRONG is none", m.x.wrong(3), 2);
    m.refused("compile(1)", m.x.compile(1), 1);
    m.taken("wrong(0) of the latest that was not refused", m.x.wrong(0), 3);
    m.refused("wrong(4)", m.x.wrong(4), 1);
  }

  private static void clockAndIn() {
    Mill m = new Mill("clock and give");
    m.taken("clock(1000)", m.x.clock(1000), 1000);
    m.taken("clock(0)", m.x.clock(0), 0);
    m.refused("clock(1001)", m.x.clock(1001), 1);
    m.refused("clock(-1)", m.x.clock(-1), 1);
    m.refused("give(32768)", m.x.give(32768), 1);
    m.refused("give(-32769)", m.x.give(-32769), 1);
    m.taken("give(32767)", m.x.give(32767), 1);
    m.taken("give(-32768)", m.x.give(-32768), 2);
    for (int i = 3; i <= 100; i++) {
      m.taken("give " + i, m.x.give(i), i);
    }
    m.refused("give 101", m.x.give(1), 3);
    m.refused("give(40000), full", m.x.give(40000), 1);
    m.due("seen(6)", m.x.seen(6), 100);
    m.begin(Mill.in("READINT(i); READINT(a[2]); READINT(j)"));
    m.due("seen(6) at the beginning", m.x.seen(6), 100);
    m.due("run(2)", m.x.run(2), 0);
    m.due("seen(6) behind two numbers", m.x.seen(6), 98);
    m.due("word i", m.x.word(0, 0), 32767);
    m.due("word a[2]", m.x.word(0, 8), -32768);
    m.x.start();
    m.due("IN is at its beginning", m.x.seen(6), 100);
    m.x.fresh();
    m.due("all, if the machine is not begun", m.x.seen(6), 100);

    Mill end = new Mill("the end of IN");
    end.x.give(5);
    end.begin(Mill.in("i := 9; j := 9; READINT(i); READINT(j); WRITEINT(j); READINT(j); WRITEINT(j)"));
    end.due("run(5)", end.x.run(5), 0);
    end.taken("give(7), while it runs", end.x.give(7), 2);
    end.due("run(9)", end.x.run(9), 1);
    end.dueText("0 behind the end, then the number that came", end.out(), "07");
  }

  private static void seen() {
    Mill m = new Mill("seen()");
    m.begin("MODULE M; VAR x: INTEGER; PROCEDURE p(a: CHAR); VAR b: ARRAY 10 OF CHAR; BEGIN x := 1; x := 2 END p; "
        + "BEGIN WRITESTRING(\"abc\"); p(\"a\"); x := 3 END M.");
    int[][] due = {{0, 0, 1, 0, 0, 1, 0, 0}, {1, 3, 1, 0, 0, 1, 0, 0}, {2, 3, 1, 0, 19, 1, 0, 0},
        {3, 3, 1, 0, 19, 1, 0, 0}, {4, 3, 1, 0, 0, 1, 0, 0}};
    for (int step = 0; step < due.length; step++) {
      m.due("run(" + Math.min(step, 1) + ")", m.x.run(Math.min(step, 1)), 0);
      for (int what = 0; what < 8; what++) {
        m.due("seen(" + what + ") behind STEP " + step, m.x.seen(what), due[step][what]);
      }
    }
    m.refused("linked(9)", m.x.linked(9), 2);
    m.due("seen(9)", m.x.seen(9), -1);
    m.due("status() is not that of seen()", m.x.status(), 2);
    m.x.link(0);
    for (int what = 0; what <= 5; what++) {
      m.due("seen(" + what + "), not begun", m.x.seen(what), 0);
    }
    m.due("out(0), not begun", m.x.out(0), -1);
  }

  private static void out() {
    Mill m = new Mill("OUT");
    m.begin(Mill.in("WRITECHAR(CHR(255)); WRITECHAR(CHR(0)); FOR i := 1 TO 999 DO WRITESTRING(\"xy\") END; "
        + "WRITEINT(12345); WRITECHAR(\"z\")"));
    m.due("run", m.x.run(20000), 1);
    m.due("it has at most 2000 bytes", m.x.seen(1), 2000);
    m.due("out(0)", m.x.out(0), 255);
    m.due("out(1)", m.x.out(1), 0);
    m.due("out(1999)", m.x.out(1999), 'y');
    m.due("out(2000)", m.x.out(2000), -1);
    m.due("out(-1)", m.x.out(-1), -1);
    m.x.start();
    m.due("OUT is empty", m.x.seen(1), 0);
    m.due("out(0)", m.x.out(0), -1);

    Mill part = new Mill("a number that does not come whole");
    part.begin(Mill.in("FOR i := 1 TO 999 DO WRITESTRING(\"xy\") END; WRITEINT(-345)"));
    part.x.run(20000);
    part.due("out(1998)", part.x.out(1998), '-');
    part.due("out(1999)", part.x.out(1999), '3');
    part.due("out(2000)", part.x.out(2000), -1);
  }

  private static void fresh() {
    Mill m = new Mill("fresh()");
    m.begin(Mill.in("NEWFILE(\"a\", i); WRITEBYTE(i, 65); NEWFILE(\"b\", i); CLOSEFILE(i); NEWFILE(\"c\", i)"));
    m.due("run", m.x.run(99), 1);
    m.due("OPEN", m.x.seen(7), 2);
    m.due("sector(0)", m.x.sector(0), 65L << 56);
    m.taken("fresh()", m.x.fresh(), 3);
    m.due("sector(0)", m.x.sector(0), 0);
    m.due("OPEN", m.x.seen(7), 0);
    m.refused("run(1)", m.x.run(1), 4);
    m.refused("word(0, 0)", m.x.word(0, 0), 4);
    m.refused("file(0, 0)", m.x.file(0, 0), 2);
    m.due("out(0)", m.x.out(0), -1);
    m.taken("linked(0): it is LINKED still", m.x.linked(0), 0);
    m.taken("start()", m.x.start(), 14);
    m.taken("run(99)", m.x.run(99), 1);
    m.taken("SECTORS are free again", m.x.file(0, 3), 0);
    m.taken("fresh()", m.x.fresh(), 3);
    m.taken("fresh()", m.x.fresh(), 0);
  }

  private static void status() {
    Mill m = new Mill("status()");
    m.refused("run(-1)", m.x.run(-1), 1);
    m.x.seen(99);
    m.x.out(99);
    m.x.sector(99);
    m.due("status()", m.x.status(), 1);
    m.due("status() once more", m.x.status(), 1);
    m.taken("feed", m.x.feed(0, 0, 0, 0, 0), 40);
    m.taken("what is WRONG is not refused", m.x.compile(40), 1);
    m.right("MODULE A; END A.");
    m.refused("unit(0, 5)", m.x.unit(0, 5), 1);
    m.refused("unit(0, -1)", m.x.unit(0, -1), 1);
    m.refused("unit(1, 0)", m.x.unit(1, 0), 2);
    m.refused("unit(-1, 0)", m.x.unit(-1, 0), 2);
    m.x.link(0);
    m.refused("run(20001), not begun", m.x.run(20001), 1);
    m.refused("run(20000), not begun", m.x.run(20000), 4);
  }
}
