/** Files and '4 THE DISK': six numbers that are OPEN, twelve files, positions, 64 SECTORS, and what stays there. */
final class DiskBoundsTest {
  private static final int HALTED = 1;
  private static final String[] FILE_USES = {"i := LENGTH(%)", "READBYTE(%, j)", "WRITEBYTE(%, 65)", "SETPOS(%, 0)", "CLOSEFILE(%)"};

  public static void main(String[] args) {
    sixNumbers();
    noNumberIsFree();
    filesThatAreNotOpen();
    thirteenthFile();
    leastNumberOfAFile();
    namesOfFiles();
    positions();
    bytesOfWriting();
    lengthsAndSectors();
    allSectors();
    noSectorIsFree();
    leastThatIsFree();
    bytesStay();
    openTillStart();
    answersOfFile();
    answersOfSector();
    freshDisk();
    Mill.end();
  }

  private static Mill does(String title, String statements, int answer, String written) {
    Mill m = new Mill(title);
    m.does(statements, answer, written);
    return m;
  }

  /** A file's number is 0 to 5, the least that is not OPEN; -1: no number is free. */
  private static void sixNumbers() {
    Mill m = new Mill("six numbers");
    m.begin(Mill.in("NEWFILE(\"a\", i); LOOP WRITEINT(i); OPENFILE(\"a\", i); IF i < 0 THEN EXIT END END; WRITEINT(i)"));
    m.taken("run(99)", m.x.run(99), HALTED);
    m.dueText("OUT", m.out(), "012345-1");
    m.due("numbers that are OPEN", m.x.seen(7), 6);
    for (int free = 0; free < 6; free++) {
      for (int other = 0; other < 6; other++) {
        if (free != other) {
          Mill two = does("two of six are free", "FOR j := 0 TO 5 DO NEWFILE(\"a\", i) END; CLOSEFILE(" + free + "); CLOSEFILE(" + other
              + "); OPENFILE(\"a\", i); WRITEINT(i); NEWFILE(\"b\", i); WRITEINT(i); OPENFILE(\"b\", i); WRITEINT(i)", HALTED,
              "" + Math.min(free, other) + Math.max(free, other) + "-1");
          two.due("numbers that are OPEN", two.x.seen(7), 6);
        }
      }
    }
    Mill none = does("-1: there is no file with this name", "i := 9; OPENFILE(\"a\", i); WRITEINT(i); NEWFILE(\"a\", i); OPENFILE(\"b\", i); "
        + "WRITEINT(i); OPENFILE(\"A\", i); WRITEINT(i); OPENFILE(\"\", i); WRITEINT(i); OPENFILE(\"aa\", i); WRITEINT(i)", HALTED,
        "-1-1-1-1-1");
    none.due("numbers that are OPEN", none.x.seen(7), 1);
    none.taken("FILES", none.x.fresh(), 1);
  }

  /** -1, and nothing is done. */
  private static void noNumberIsFree() {
    String six = "NEWFILE(\"a\", i); FOR j := 1 TO 20 DO WRITEBYTE(i, 65) END; SETPOS(i, 7); FOR j := 1 TO 5 DO OPENFILE(\"a\", i) END; ";
    Mill m = does("NEWFILE of one that there is", six + "i := 9; NEWFILE(\"a\", i); WRITEINT(i); WRITEINT(LENGTH(0))", HALTED, "-120");
    m.taken("file(0, 0): it is not made empty", m.x.file(0, 0), 20);
    m.taken("file(0, 1)", m.x.file(0, 1), 2);
    m.due("numbers that are OPEN", m.x.seen(7), 6);
    does("its positions are as they were", six + "NEWFILE(\"a\", i); SETPOS(5, 20); READBYTE(0, i); WRITEINT(i); READBYTE(5, i); WRITEINT(i)",
        HALTED, "65-1");
    Mill made = does("NEWFILE of a new one", six + "NEWFILE(\"b\", i); WRITEINT(i)", HALTED, "-1");
    made.refused("file(1, 0): it is not made", made.x.file(1, 0), 2);
    Mill five = does("one is free", six + "CLOSEFILE(5); NEWFILE(\"b\", i); WRITEINT(i)", HALTED, "5");
    five.taken("file(1, 0)", five.x.file(1, 0), 0);
  }

  /** TRAP 8: a file that is not OPEN. */
  private static void filesThatAreNotOpen() {
    for (String use : FILE_USES) {
      for (int number : new int[] {-32767, -1, 0, 1, 5, 6, 7, 32767}) {
        for (int open = 0; open <= 6; open++) {
          boolean right = number >= 0 && number < open;
          does(open + " are OPEN", "FOR j := 1 TO " + open + " DO NEWFILE(\"a\", i) END; WRITECHAR(\"o\"); " + use.replace("%", "" + number)
              + "; WRITECHAR(\"k\")", right ? HALTED : 18, right ? "ok" : "o");
        }
      }
      does("closed", "NEWFILE(\"a\", i); CLOSEFILE(i); " + use.replace("%", "i"), 18, "");
      does("deleted", "NEWFILE(\"a\", i); DELETEFILE(\"a\"); " + use.replace("%", "i"), 18, "");
      does("another one is deleted", "NEWFILE(\"a\", i); NEWFILE(\"b\", j); DELETEFILE(\"b\"); " + use.replace("%", "i"), HALTED, "");
      does("deleted and made once more", "NEWFILE(\"a\", i); OPENFILE(\"a\", j); DELETEFILE(\"a\"); NEWFILE(\"a\", i); " + use.replace("%", "1"),
          18, "");
    }
    Mill all = does("DELETEFILE: its numbers are not OPEN", "FOR j := 1 TO 5 DO NEWFILE(\"a\", i) END; NEWFILE(\"b\", i); DELETEFILE(\"a\")",
        HALTED, "");
    all.due("numbers that are OPEN", all.x.seen(7), 1);
  }

  private static String files(int from, int to) {
    StringBuilder all = new StringBuilder();
    for (int f = from; f <= to; f++) {
      all.append("NEWFILE(\"f").append(f).append("\", i); WRITEBYTE(i, ").append(f).append("); CLOSEFILE(i); ");
    }
    return all.toString();
  }

  private static void thirteenthFile() {
    Mill twelve = does("12 FILES", files(0, 11), HALTED, "");
    for (int f = 0; f < 12; f++) {
      twelve.taken("read(" + f + ", 0)", twelve.x.read(f, 0), f);
      twelve.taken("file(" + f + ", 3)", twelve.x.file(f, 3), f);
      twelve.taken("file(" + f + ", 2)", twelve.x.file(f, 2), f < 10 ? 2 : 3);
    }
    twelve.denied("file(12, 0)", () -> twelve.x.file(12, 0), 2);
    twelve.does("NEWFILE(\"x\", i); WRITEINT(i); NEWFILE(\"f3\", i); WRITEINT(i); OPENFILE(\"x\", j); WRITEINT(j)", HALTED, "-10-1");
    twelve.taken("file(3, 0): that one was made empty", twelve.x.file(3, 0), 0);
    twelve.denied("file(12, 0): it would be a 13th file", () -> twelve.x.file(12, 0), 2);
    twelve.due("numbers that are OPEN", twelve.x.seen(7), 1);
    twelve.does("DELETEFILE(\"f7\"); NEWFILE(\"x\", i); WRITEINT(i); NEWFILE(\"y\", i); WRITEINT(i)", HALTED, "0-1");
    twelve.taken("name(7, 0)", twelve.x.name(7, 0), 'x');
    twelve.taken("fresh()", twelve.x.fresh(), 12);
  }

  private static void leastNumberOfAFile() {
    Mill m = does("a new one has the least number", files(0, 4) + "DELETEFILE(\"f3\"); DELETEFILE(\"f1\"); NEWFILE(\"x\", i); NEWFILE(\"y\", i); "
        + "NEWFILE(\"z\", i)", HALTED, "");
    String due = "0x2y4z";
    for (int f = 0; f < 6; f++) {
      m.taken("the last letter of FILE " + f, m.x.name(f, m.x.file(f, 2) - 1), due.charAt(f));
    }
    m.denied("file(6, 0)", () -> m.x.file(6, 0), 2);
    m.does("DELETEFILE(\"f0\"); DELETEFILE(\"f0\"); DELETEFILE(\"none\")", HALTED, "");
    m.denied("file(0, 0)", () -> m.x.file(0, 0), 2);
    m.taken("file(1, 0): others keep their numbers", m.x.file(1, 0), 0);
    m.does("NEWFILE(\"z\", i)", HALTED, "");
    m.denied("file(0, 0): z is there already", () -> m.x.file(0, 0), 2);
  }

  private static void namesOfFiles() {
    String forty = "abcdefghijklmnopqrstuvwxyz!#$%&'()*+,-./";
    Mill m = does("names", "NEWFILE(\"" + forty + "\", i); NEWFILE(\"" + forty.substring(0, 39) + "\", i); NEWFILE(\"\", i); NEWFILE(\" \", i); "
        + "OPENFILE(\"" + forty + "\", i); OPENFILE(\"\", j); WRITEINT(i); WRITEINT(j)", HALTED, "45");
    int[] lengths = {40, 39, 0, 1};
    for (int f = 0; f < 4; f++) {
      int file = f;
      m.taken("file(" + f + ", 2)", m.x.file(f, 2), lengths[f]);
      m.denied("name(" + f + ", its length)", () -> m.x.name(file, lengths[file]), 2);
      m.denied("name(" + f + ", -1)", () -> m.x.name(file, -1), 2);
    }
    for (int i = 0; i < 40; i++) {
      m.taken("name(0, " + i + ")", m.x.name(0, i), forty.charAt(i));
    }
    m.taken("name(3, 0)", m.x.name(3, 0), ' ');
    m.denied("name(4, 0)", () -> m.x.name(4, 0), 2);
    m.denied("name(-1, 0)", () -> m.x.name(-1, 0), 2);
    m.denied("name(12, 0)", () -> m.x.name(12, 0), 2);
    m.denied("name(0, the most)", () -> m.x.name(0, Integer.MAX_VALUE), 2);
    m.denied("name(0, the least)", () -> m.x.name(0, Integer.MIN_VALUE), 2);
    Mill last = does("the last FILE with the longest name", files(0, 10) + "NEWFILE(\"" + forty + "\", i); WRITEBYTE(i, 99); CLOSEFILE(i); OPENFILE(\""
        + forty + "\", i); READBYTE(i, j); WRITEINT(i); WRITEINT(j); OPENFILE(\"" + forty.substring(1) + "/\", i); WRITEINT(i)", HALTED, "099-1");
    last.taken("file(11, 2)", last.x.file(11, 2), 40);
    last.taken("name(11, 39)", last.x.name(11, 39), '/');
    last.denied("name(11, 40)", () -> last.x.name(11, 40), 2);
    last.taken("file(11, 3)", last.x.file(11, 3), 11);
  }

  /** SETPOS: 0 at least, the length at most. */
  private static void positions() {
    for (int length = 0; length <= 3; length++) {
      for (int e = -2; e <= 5; e++) {
        int at = Math.max(0, Math.min(length, e));
        String write = "NEWFILE(\"a\", i); FOR j := 1 TO " + length + " DO WRITEBYTE(i, 60 + j) END; SETPOS(i, " + e + "); ";
        String read = at < length ? "" + (61 + at) : "-1";
        String next = at + 1 < length ? "" + (62 + at) : "-1";
        does("SETPOS " + e + " of " + length, write + "READBYTE(i, j); WRITEINT(j); READBYTE(i, j); WRITEINT(j)", HALTED, read + next);
        Mill m = does("SETPOS " + e + " of " + length, write + "WRITEBYTE(i, 90); WRITEINT(LENGTH(i))", HALTED,
            "" + Math.max(length, at + 1));
        m.taken("read", m.x.read(0, at), 90);
        if (at > 0) {
          m.taken("the byte ahead of it", m.x.read(0, at - 1), 60 + at);
        }
      }
    }
    does("far off", "NEWFILE(\"a\", i); WRITEBYTE(i, 65); SETPOS(i, 32767); READBYTE(i, j); WRITEINT(j); SETPOS(i, -32767 - 1); READBYTE(i, j); "
        + "WRITEINT(j)", HALTED, "-165");
    does("behind the end it does not go on", "NEWFILE(\"a\", i); OPENFILE(\"a\", j); READBYTE(j, a[0]); READBYTE(j, a[0]); WRITEBYTE(i, 65); "
        + "READBYTE(j, a[1]); WRITEINT(a[0]); WRITEINT(a[1])", HALTED, "-165");
    does("each number has its own position", "NEWFILE(\"a\", i); OPENFILE(\"a\", j); WRITEBYTE(i, 1); WRITEBYTE(i, 2); WRITEBYTE(j, 3); "
        + "READBYTE(j, a[0]); READBYTE(i, a[1]); WRITEINT(a[0]); WRITEINT(a[1])", HALTED, "2-1");
    does("at position 0", "NEWFILE(\"a\", i); WRITEBYTE(i, 65); OPENFILE(\"a\", j); READBYTE(j, a[0]); WRITEINT(a[0]); CLOSEFILE(i); "
        + "OPENFILE(\"a\", i); READBYTE(i, a[0]); WRITEINT(a[0])", HALTED, "6565");
    does("all its positions are 0", "NEWFILE(\"a\", i); FOR j := 1 TO 9 DO WRITEBYTE(i, 65) END; OPENFILE(\"a\", j); SETPOS(j, 5); "
        + "NEWFILE(\"a\", a[2]); WRITEBYTE(i, 1); READBYTE(j, a[0]); READBYTE(2, a[1]); WRITEINT(a[0]); WRITEINT(a[1]); WRITEINT(a[2])",
        HALTED, "112");
  }

  /** The lowest 8 bits of e. */
  private static void bytesOfWriting() {
    for (int e : new int[] {0, 1, 127, 128, 255, 256, 257, 511, 32767, -1, -128, -255, -256, -257, -32768}) {
      Mill m = new Mill("WRITEBYTE of " + e);
      m.x.give(e);
      m.begin(Mill.in("READINT(j); NEWFILE(\"a\", i); WRITEBYTE(i, j); SETPOS(i, 0); READBYTE(i, j)"));
      m.taken("run(9)", m.x.run(9), HALTED);
      m.taken("READBYTE", m.x.word(0, 1), e & 255);
      m.taken("read(0, 0)", m.x.read(0, 0), e & 255);
      m.due("sector(0)", m.x.sector(0), (long) (e & 255) << 56);
    }
  }

  /** As many SECTORS as its bytes need. */
  private static void lengthsAndSectors() {
    for (int length : new int[] {0, 1, 15, 16, 17, 31, 32, 33, 160, 161}) {
      Mill m = does(length + " bytes", "NEWFILE(\"a\", i); FOR j := 1 TO " + length + " DO WRITEBYTE(i, j) END", HALTED, "");
      int sectors = (length + 15) / 16;
      m.taken("file(0, 0)", m.x.file(0, 0), length);
      m.taken("file(0, 1)", m.x.file(0, 1), sectors);
      for (int i = 0; i < sectors; i++) {
        m.taken("file(0, " + (3 + i) + ")", m.x.file(0, 3 + i), i);
      }
      m.denied("one SECTOR more", () -> m.x.file(0, 3 + sectors), 1);
      m.denied("read(0, its length)", () -> m.x.read(0, length), 2);
      m.denied("read(0, -1)", () -> m.x.read(0, -1), 2);
      for (int i = Math.max(0, length - 2); i < length; i++) {
        m.taken("read(0, " + i + ")", m.x.read(0, i), i + 1);
      }
    }
  }

  private static void allSectors() {
    Mill m = new Mill("64 SECTORS");
    m.begin(Mill.in("NEWFILE(\"a\", i); FOR j := 1 TO 1024 DO WRITEBYTE(i, j) END; WRITEINT(LENGTH(i))"));
    m.taken("run(20000)", m.x.run(20000), HALTED);
    m.dueText("OUT", m.out(), "1024");
    m.taken("file(0, 1)", m.x.file(0, 1), 64);
    m.taken("file(0, 66)", m.x.file(0, 66), 63);
    m.denied("file(0, 67)", () -> m.x.file(0, 67), 1);
    m.taken("read(0, 1023)", m.x.read(0, 1023), 0);
    m.taken("read(0, 1022)", m.x.read(0, 1022), 255);
    m.denied("read(0, 1024)", () -> m.x.read(0, 1024), 2);
    m.due("sector(127)", m.x.sector(127), 0xF9FAFBFCFDFEFF00L);
    m.does("OPENFILE(\"a\", i); SETPOS(i, 1024); WRITECHAR(\"o\"); WRITEBYTE(i, 1); WRITECHAR(\"k\")", 18, "o");
    m.taken("file(0, 0)", m.x.file(0, 0), 1024);
    m.does("OPENFILE(\"a\", i); SETPOS(i, 1023); WRITEBYTE(i, 7); NEWFILE(\"b\", j); WRITEINT(j); WRITEBYTE(j, 1)", 18, "1");
    m.taken("read(0, 1023)", m.x.read(0, 1023), 7);
    m.taken("file(1, 0): an empty file needs no SECTOR", m.x.file(1, 0), 0);
    m.taken("file(1, 1)", m.x.file(1, 1), 0);
  }

  /** TRAP 8: no sector is free. */
  private static void noSectorIsFree() {
    Mill m = new Mill("63 SECTORS and one");
    m.begin(Mill.in("NEWFILE(\"a\", i); FOR j := 1 TO 1008 DO WRITEBYTE(i, 65) END; NEWFILE(\"b\", i); FOR j := 1 TO 16 DO WRITEBYTE(i, 66) END; "
        + "WRITECHAR(\"o\"); SETPOS(i, 3); WRITEBYTE(i, 67); WRITECHAR(\"k\"); SETPOS(0, 1007); WRITEBYTE(0, 68); WRITECHAR(\"!\"); WRITEBYTE(0, 69)"));
    m.taken("run(20000)", m.x.run(20000), 18);
    m.dueText("OUT", m.out(), "ok!");
    m.taken("file(0, 0)", m.x.file(0, 0), 1008);
    m.taken("file(1, 0)", m.x.file(1, 0), 16);
    m.taken("file(1, 3)", m.x.file(1, 3), 63);
    m.taken("read(1, 3)", m.x.read(1, 3), 67);
    m.taken("read(0, 1007)", m.x.read(0, 1007), 68);
    m.does("OPENFILE(\"b\", i); SETPOS(i, 16); DELETEFILE(\"a\"); WRITEBYTE(i, 70); WRITEINT(LENGTH(i))", HALTED, "17");
    m.taken("file(1, 4): what was deleted is free", m.x.file(1, 4), 0);
  }

  private static void leastThatIsFree() {
    String three = "NEWFILE(\"a\", i); NEWFILE(\"b\", i); NEWFILE(\"c\", i); FOR j := 1 TO 32 DO WRITEBYTE(0, 65); WRITEBYTE(1, 66); "
        + "WRITEBYTE(2, 67) END; ";
    Mill m = does("by turns", three, HALTED, "");
    int[][] due = {{0, 3}, {1, 4}, {2, 5}};
    for (int f = 0; f < 3; f++) {
      m.taken("the first SECTOR of FILE " + f, m.x.file(f, 3), due[f][0]);
      m.taken("the second SECTOR of FILE " + f, m.x.file(f, 4), due[f][1]);
    }
    Mill deleted = does("one is deleted", three + "DELETEFILE(\"b\"); NEWFILE(\"d\", i); FOR j := 1 TO 33 DO WRITEBYTE(i, 68) END", HALTED, "");
    int[] d = {1, 4, 6};
    for (int i = 0; i < 3; i++) {
      deleted.taken("file(1, " + (3 + i) + ")", deleted.x.file(1, 3 + i), d[i]);
    }
    Mill empty = does("one is made empty", three + "NEWFILE(\"a\", i); FOR j := 1 TO 17 DO WRITEBYTE(2, 69) END; WRITEBYTE(i, 70)", HALTED, "");
    empty.taken("file(2, 5)", empty.x.file(2, 5), 0);
    empty.taken("file(2, 6)", empty.x.file(2, 6), 3);
    empty.taken("file(0, 3)", empty.x.file(0, 3), 6);
    empty.taken("file(0, 1)", empty.x.file(0, 1), 1);
  }

  /** What is deleted or made empty gives its SECTORS free (the bytes stay there). */
  private static void bytesStay() {
    String write = "NEWFILE(\"a\", i); FOR j := 1 TO 20 DO WRITEBYTE(i, 64 + j) END; ";
    String[] gives = {"DELETEFILE(\"a\")", "NEWFILE(\"a\", i)", "DELETEFILE(\"a\"); NEWFILE(\"b\", i)"};
    for (String give : gives) {
      Mill m = does("the bytes stay there", write + give, HALTED, "");
      m.due("sector(0)", m.x.sector(0), 0x4142434445464748L);
      m.due("sector(1)", m.x.sector(1), 0x494A4B4C4D4E4F50L);
      m.due("sector(2)", m.x.sector(2), 0x5152535400000000L);
      m.does("NEWFILE(\"c\", i); WRITEBYTE(i, 97)", HALTED, "");
      m.due("sector(0): only what is written is another one", m.x.sector(0), 0x6142434445464748L);
    }
    Mill read = does("but a file has none of them", write + "NEWFILE(\"a\", i); WRITEBYTE(i, 97); READBYTE(i, j); WRITEINT(j)", HALTED, "-1");
    read.denied("read(0, 1)", () -> read.x.read(0, 1), 2);
  }

  /** Numbers that are OPEN are so till the next start(); the disk stays as it is till fresh(). */
  private static void openTillStart() {
    Mill m = does("till the next start()", "NEWFILE(\"a\", i); WRITEBYTE(i, 65); OPENFILE(\"a\", i); CLOSEFILE(7)", 18, "");
    m.due("behind a TRAP", m.x.seen(7), 2);
    m.taken("link(0)", m.x.link(0), 1);
    m.due("behind link()", m.x.seen(7), 2);
    m.right("MODULE N; VAR i: INTEGER; BEGIN OPENFILE(\"a\", i); WRITEINT(i); READBYTE(i, i); WRITEINT(i) END N.");
    m.due("behind compile()", m.x.seen(7), 2);
    m.denied("link(9)", () -> m.x.link(9), 2);
    m.taken("link(1)", m.x.link(1), 1);
    m.taken("file(0, 0)", m.x.file(0, 0), 1);
    m.taken("start()", m.x.start(), 1);
    m.due("behind start()", m.x.seen(7), 0);
    m.taken("run(9)", m.x.run(9), HALTED);
    m.dueText("OUT", m.out(), "065");
    m.due("one is OPEN", m.x.seen(7), 1);
    m.taken("start()", m.x.start(), 1);
    m.due("behind start()", m.x.seen(7), 0);
    m.taken("file(0, 0)", m.x.file(0, 0), 1);
  }

  private static void answersOfFile() {
    Mill m = new Mill("file(f, what)");
    for (int f : new int[] {Integer.MIN_VALUE, -1, 0, 1, 11, 12, Integer.MAX_VALUE}) {
      m.denied("file(" + f + ", 0): no such file", () -> m.x.file(f, 0), 2);
      m.denied("file(" + f + ", -1)", () -> m.x.file(f, -1), 2);
      m.denied("read(" + f + ", 0)", () -> m.x.read(f, 0), 2);
      m.denied("name(" + f + ", 0)", () -> m.x.name(f, 0), 2);
    }
    m.does("NEWFILE(\"abc\", i)", HALTED, "");
    m.taken("file(0, 0)", m.x.file(0, 0), 0);
    m.taken("file(0, 1)", m.x.file(0, 1), 0);
    m.taken("file(0, 2)", m.x.file(0, 2), 3);
    for (int what : new int[] {Integer.MIN_VALUE, Integer.MIN_VALUE + 2, -1, 3, 4, 66, 67, Integer.MAX_VALUE}) {
      m.denied("file(0, " + what + ")", () -> m.x.file(0, what), 1);
      m.denied("file(1, " + what + ")", () -> m.x.file(1, what), 2);
    }
    m.denied("read(0, 0)", () -> m.x.read(0, 0), 2);
    m.does("OPENFILE(\"abc\", i); WRITEBYTE(i, 200)", HALTED, "");
    m.taken("file(0, 3)", m.x.file(0, 3), 0);
    m.denied("file(0, 4)", () -> m.x.file(0, 4), 1);
    m.taken("read(0, 0)", m.x.read(0, 0), 200);
    for (int i : new int[] {Integer.MIN_VALUE, -1, 1, 15, 16, Integer.MAX_VALUE}) {
      m.denied("read(0, " + i + ")", () -> m.x.read(0, i), 2);
    }
  }

  private static void answersOfSector() {
    Mill m = new Mill("sector(i)");
    m.begin(Mill.in("NEWFILE(\"a\", i); FOR j := 0 TO 1023 DO WRITEBYTE(i, j * 3) END"));
    m.taken("run(20000)", m.x.run(20000), HALTED);
    for (int i = 0; i < 128; i++) {
      long due = 0;
      for (int j = 0; j < 8; j++) {
        due = due << 8 | (8 * i + j) * 3 & 255;
      }
      m.due("sector(" + i + ")", m.x.sector(i), due);
    }
    for (int i : new int[] {Integer.MIN_VALUE, -1, 128, 129, 1 << 28, 1 << 29, Integer.MAX_VALUE}) {
      m.due("sector(" + i + "): 0 for others", m.x.sector(i), 0);
    }
  }

  private static void freshDisk() {
    Mill m = does("fresh()", files(0, 11) + "OPENFILE(\"f5\", i); SETPOS(i, 1); FOR j := 1 TO 800 DO WRITEBYTE(i, 65) END", HALTED, "");
    m.taken("fresh()", m.x.fresh(), 12);
    for (int i = 0; i < 128; i++) {
      m.due("sector(" + i + ")", m.x.sector(i), 0);
    }
    for (int f = 0; f < 12; f++) {
      int file = f;
      m.denied("file(" + f + ", 0)", () -> m.x.file(file, 0), 2);
    }
    m.denied("run(1)", () -> m.x.run(1), 4);
    m.denied("word(0, 0)", () -> m.x.word(0, 0), 4);
    m.due("seen(0)", m.x.seen(0), 0);
    m.due("seen(7)", m.x.seen(7), 0);
    m.taken("linked(0)", m.x.linked(0), 0);
    m.taken("unit(0, 1)", m.x.unit(0, 1), 2);
    m.taken("fresh()", m.x.fresh(), 0);
    m.does("NEWFILE(\"z\", i); WRITEBYTE(i, 1); WRITEINT(i)", HALTED, "0");
    m.taken("file(0, 3)", m.x.file(0, 3), 0);
    m.denied("file(1, 0)", () -> m.x.file(1, 0), 2);
  }
}
