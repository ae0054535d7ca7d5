import java.nio.charset.StandardCharsets;
import java.util.ArrayList;
import java.util.List;
import java.util.function.ToLongFunction;

/**
 * '5 STATUS': a long run of calls, and the same run with calls that are refused, or that only tell something, ahead of each
 * of its calls. These leave all answers as they are.
 */
final class StatusBoundsTest {
  private static final String[] TEXTS = {
    "DEFINITION MODULE D; VAR x: INTEGER; PROCEDURE p(n: INTEGER); END D.",
    "IMPLEMENTATION MODULE D; VAR y: ARRAY 3 OF INTEGER; PROCEDURE p(n: INTEGER); BEGIN y[n] := x; INC(x) END p; BEGIN x := 5 END D.",
    "MODULE M; FROM D IMPORT p, x; VAR f, i: INTEGER; c, m: PROCESS; PROCEDURE e; BEGIN LOOP IOTRANSFER(c, m); WRITECHAR(\"t\") END END e; "
        + "BEGIN NEWPROCESS(e, 50, c); TRANSFER(m, c); NEWFILE(\"log\", f); FOR i := 0 TO 2 DO p(i); WRITEBYTE(f, x); READINT(x); "
        + "WRITEINT(x) END; CLOSEFILE(9) END M.",
    "MODULE N; BEGIN x := 1 END N.",
  };

  private static final class Call {
    final String name;
    final ToLongFunction<UnitMill> made;
    final boolean keepsStatus;

    Call(String name, boolean keepsStatus, ToLongFunction<UnitMill> made) {
      this.name = name;
      this.keepsStatus = keepsStatus;
      this.made = made;
    }
  }

  private static final List<Call> RUN = new ArrayList<>();

  public static void main(String[] args) {
    makeRun();
    asItIs();
    withQuestions();
    withRefusedCalls();
    withCallsThatKeepNoStatus();
    withTextsThatAreWrong();
    beforeAllIsThere();
    Mill.end();
  }

  private static void add(String name, ToLongFunction<UnitMill> made) {
    RUN.add(new Call(name, true, made));
  }

  private static void addSeen() {
    for (int what = 0; what <= 8; what++) {
      int number = what;
      RUN.add(new Call("seen(" + what + ")", false, x -> x.seen(number)));
    }
    RUN.add(new Call("out(1)", false, x -> x.out(1)));
    RUN.add(new Call("sector(0)", false, x -> x.sector(0)));
  }

  private static void addText(String text) {
    byte[] bytes = text.getBytes(StandardCharsets.ISO_8859_1);
    for (int at = 0; at < bytes.length; at += 40) {
      long[] five = new long[5];
      for (int i = 0; i < 40; i++) {
        int b = at + i < bytes.length ? bytes[at + i] & 255 : 32;
        five[i / 8] = five[i / 8] << 8 | b;
      }
      add("feed", x -> x.feed(five[0], five[1], five[2], five[3], five[4]));
    }
    add("compile", x -> x.compile(bytes.length));
    add("wrong(0)", x -> x.wrong(0));
    add("wrong(1)", x -> x.wrong(1));
    add("wrong(3)", x -> x.wrong(3));
  }

  private static void makeRun() {
    addText(TEXTS[0]);
    addText(TEXTS[1]);
    addText(TEXTS[2]);
    add("unit(0, 4)", x -> x.unit(0, 4));
    add("clock(7)", x -> x.clock(7));
    add("link(1)", x -> x.link(1));
    add("give(3)", x -> x.give(3));
    add("linked(1)", x -> x.linked(1));
    addSeen();
    add("start()", UnitMill::start);
    add("give(-9)", x -> x.give(-9));
    add("run(9)", x -> x.run(9));
    addSeen();
    add("word(0, 0)", x -> x.word(0, 0));
    add("run(12)", x -> x.run(12));
    addSeen();
    addText(TEXTS[3]);
    add("run(20000)", x -> x.run(20000));
    addSeen();
    add("word(0, 3)", x -> x.word(0, 3));
    add("file(0, 0)", x -> x.file(0, 0));
    add("read(0, 2)", x -> x.read(0, 2));
    add("name(0, 2)", x -> x.name(0, 2));
    add("start()", UnitMill::start);
    add("run(30)", x -> x.run(30));
    addSeen();
    add("fresh()", UnitMill::fresh);
    addSeen();
    add("link(1)", x -> x.link(1));
    add("start()", UnitMill::start);
    add("run(20000)", x -> x.run(20000));
    addSeen();
  }

  /** What the calls of the run answer, with others ahead of the one at this place. */
  private static long[] answers(int place, Runnable[] others, UnitMill x) {
    long[] all = new long[2 * RUN.size()];
    for (int i = 0; i < RUN.size(); i++) {
      if (i == place) {
        for (Runnable other : others) {
          other.run();
        }
      }
      all[2 * i] = RUN.get(i).made.applyAsLong(x);
      all[2 * i + 1] = RUN.get(i).keepsStatus ? x.status() : 0;
    }
    return all;
  }

  private static void same(Mill m, long[] got, long[] due) {
    for (int i = 0; i < RUN.size(); i++) {
      m.due("call " + i + ", " + RUN.get(i).name, got[2 * i], due[2 * i]);
      m.due("status() behind call " + i + ", " + RUN.get(i).name, got[2 * i + 1], due[2 * i + 1]);
    }
  }

  private static long[] plain() {
    return answers(-1, new Runnable[0], new UnitMill());
  }

  private static void asItIs() {
    Mill m = new Mill("the run as it is");
    long[] all = answers(-1, new Runnable[0], m.x);
    for (int i = 0; i < RUN.size(); i++) {
      m.due("status() behind " + RUN.get(i).name, all[2 * i + 1], 0);
    }
    String[] names = {"unit(0, 4)", "clock(7)", "link(1)", "give(3)", "linked(1)", "start()", "give(-9)", "run(9)", "word(0, 0)", "run(12)",
        "run(20000)", "word(0, 3)", "file(0, 0)", "read(0, 2)", "name(0, 2)", "run(30)", "fresh()"};
    long[] due = {4, 7, 2, 1, 1, 8, 2, 0, 5, 0, 18, -9, 3, 248, 'g', 0, 1};
    for (int n = 0; n < names.length; n++) {
      for (int i = 0; i < RUN.size(); i++) {
        if (RUN.get(i).name.equals(names[n])) {
          m.due(names[n], all[2 * i], due[n]);
        }
      }
    }
  }

  private static Runnable ask(Mill m, ToLongFunction<UnitMill> call) {
    return () -> call.applyAsLong(m.x);
  }

  /** Calls that tell something change nothing but STATUS, refused or not. */
  private static void withQuestions() {
    long[] due = plain();
    for (int place = 0; place <= RUN.size(); place++) {
      Mill m = new Mill("questions ahead of call " + place);
      List<Runnable> all = new ArrayList<>();
      for (int what = -1; what <= 5; what++) {
        int number = what;
        all.add(ask(m, x -> x.wrong(number)));
        all.add(ask(m, x -> x.unit(0, number)));
        all.add(ask(m, x -> x.unit(number, 0)));
        all.add(ask(m, x -> x.linked(number)));
        all.add(ask(m, x -> x.word(0, number)));
        all.add(ask(m, x -> x.word(number, 0)));
        all.add(ask(m, x -> x.file(0, number)));
        all.add(ask(m, x -> x.file(number, 0)));
        all.add(ask(m, x -> x.read(0, number)));
        all.add(ask(m, x -> x.name(0, number)));
      }
      same(m, answers(place, all.toArray(new Runnable[0]), m.x), due);
    }
  }

  private static Runnable refused(Mill m, String name, int status, ToLongFunction<UnitMill> call) {
    return () -> m.refused(name, call.applyAsLong(m.x), status);
  }

  /** Of a refused call, which answers -1 and changes nothing else. */
  private static void withRefusedCalls() {
    long[] due = plain();
    for (int place = 0; place <= RUN.size(); place++) {
      Mill m = new Mill("refused calls ahead of call " + place);
      Runnable[] all = {
        refused(m, "compile(-1)", 1, x -> x.compile(-1)), refused(m, "compile(4001)", 1, x -> x.compile(4001)),
        refused(m, "wrong(4)", 1, x -> x.wrong(4)), refused(m, "wrong(-1)", 1, x -> x.wrong(-1)),
        refused(m, "unit(16, 0)", 2, x -> x.unit(16, 0)), refused(m, "unit(-1, 0)", 2, x -> x.unit(-1, 0)),
        refused(m, "unit(3, 9)", 2, x -> x.unit(3, 9)), refused(m, "link(16)", 2, x -> x.link(16)),
        refused(m, "link(-1)", 2, x -> x.link(-1)), refused(m, "link(0): no MODULE", 2, x -> x.link(0)),
        refused(m, "run(-1)", 1, x -> x.run(-1)), refused(m, "run(20001)", 1, x -> x.run(20001)),
        refused(m, "clock(-1)", 1, x -> x.clock(-1)), refused(m, "clock(1001)", 1, x -> x.clock(1001)),
        refused(m, "give(32768)", 1, x -> x.give(32768)), refused(m, "give(-32769)", 1, x -> x.give(-32769)),
        refused(m, "file(12, 0)", 2, x -> x.file(12, 0)), refused(m, "file(-1, 0)", 2, x -> x.file(-1, 0)),
        refused(m, "file(1, -1)", 2, x -> x.file(1, -1)), refused(m, "read(12, 0)", 2, x -> x.read(12, 0)),
        refused(m, "read(-1, 0)", 2, x -> x.read(-1, 0)), refused(m, "read(0, 1024)", 2, x -> x.read(0, 1024)),
        refused(m, "name(12, 0)", 2, x -> x.name(12, 0)), refused(m, "name(-1, 0)", 2, x -> x.name(-1, 0)),
        refused(m, "name(0, 40)", 2, x -> x.name(0, 40)),
      };
      same(m, answers(place, all, m.x), due);
    }
  }

  /** Of each of these calls STATUS is not kept: it is that of the call before. */
  private static void withCallsThatKeepNoStatus() {
    long[] due = plain();
    for (int place = 0; place <= RUN.size(); place++) {
      Mill m = new Mill("seen(), out(), sector(), status() ahead of call " + place);
      List<Runnable> all = new ArrayList<>();
      ToLongFunction<UnitMill> isRefused = place % 2 == 0 ? x -> x.run(-1) : x -> x.file(12, 0);
      int status = place % 2 == 0 ? 1 : 2;
      all.add(ask(m, isRefused));
      for (int i = -1; i <= 9; i++) {
        int number = i;
        all.add(() -> {
          m.x.seen(number);
          m.due("status() behind seen(" + number + ")", m.x.status(), status);
          m.x.out(number);
          m.due("status() behind out(" + number + ")", m.x.status(), status);
          m.x.sector(number * 16 - 1);
          m.due("status() behind sector()", m.x.status(), status);
        });
      }
      same(m, answers(place, all.toArray(new Runnable[0]), m.x), due);
      m.taken("fresh()", m.x.fresh() >= 0 ? 1 : 0, 1);
      m.x.seen(-1);
      m.x.out(-1);
      m.x.sector(-1);
      m.due("status() behind these", m.x.status(), 0);
    }
  }

  /** What is WRONG: nothing changes but the TAPE (and what wrong() tells). */
  private static void withTextsThatAreWrong() {
    long[] due = plain();
    String[] wrong = {"DEFINITION MODULE D; VAR z: CHAR; END ^E.", "MODULE M; BEGIN WRITEINT(1) END ^D.", "^",
        "IMPLEMENTATION MODULE D; VAR z: CHAR; BEGIN END D^"};
    boolean fed = false;
    for (int place = 0; place < RUN.size(); place++) {
      String name = RUN.get(place).name;
      // While a text is on the TAPE another one can't come ahead of it, and wrong() is of the latest one.
      if (!fed && !name.startsWith("wrong")) {
        Mill m = new Mill("texts that are WRONG ahead of call " + place);
        Runnable[] all = new Runnable[wrong.length];
        for (int i = 0; i < wrong.length; i++) {
          String text = wrong[i];
          all[i] = () -> m.due("what is WRONG in " + text, m.compile(text.replace("^", "")) > 0 ? 1 : 0, 1);
        }
        same(m, answers(place, all, m.x), due);
      }
      fed = name.equals("feed");
    }
  }

  /** Calls that are refused as long as something is not there. */
  private static void beforeAllIsThere() {
    Mill m = new Mill("a new object");
    for (int what = 0; what <= 3; what++) {
      int number = what;
      m.denied("wrong(" + what + "): none was compiled yet", () -> m.x.wrong(number), 2);
    }
    m.denied("unit(0, 0)", () -> m.x.unit(0, 0), 2);
    m.denied("link(0)", () -> m.x.link(0), 2);
    m.denied("linked(0)", () -> m.x.linked(0), 4);
    m.denied("linked(-1)", () -> m.x.linked(-1), 4);
    m.denied("start()", () -> m.x.start(), 4);
    m.denied("run(0)", () -> m.x.run(0), 4);
    m.denied("run(20000)", () -> m.x.run(20000), 4);
    m.denied("word(0, 0)", () -> m.x.word(0, 0), 4);
    m.denied("word(-1, -1)", () -> m.x.word(-1, -1), 4);
    m.taken("clock(5)", m.x.clock(5), 5);
    m.taken("give(5)", m.x.give(5), 1);
    m.taken("fresh()", m.x.fresh(), 0);
    m.taken("compile(0)", m.x.compile(0), 1);
    m.taken("wrong(0)", m.x.wrong(0), 1);
    m.right("MODULE A; VAR x: CHAR; END A.");
    m.denied("link(1)", () -> m.x.link(1), 2);
    m.denied("linked(0)", () -> m.x.linked(0), 4);
    m.denied("start()", () -> m.x.start(), 4);
    m.taken("link(0)", m.x.link(0), 1);
    m.denied("linked(1)", () -> m.x.linked(1), 2);
    m.denied("linked(-1)", () -> m.x.linked(-1), 2);
    m.denied("run(0)", () -> m.x.run(0), 4);
    m.denied("word(0, 0)", () -> m.x.word(0, 0), 4);
    m.taken("start()", m.x.start(), 1);
    m.taken("word(0, 0)", m.x.word(0, 0), 0);
    m.denied("word(0, 1)", () -> m.x.word(0, 1), 2);
    m.taken("run(0)", m.x.run(0), 1);
  }
}
