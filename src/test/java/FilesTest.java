/** Promises 15, 16, 17, 18: the disk and its files. */
final class FilesTest {
  public static void main(String[] args) {
    numbers();
    bytes();
    names();
    sectors();
    traps();
    stays();
    Mill.end();
  }

  private static void does(String statements, int answer, String written) {
    Mill.does("files", statements, answer, written);
  }

  private static void numbers() {
    does("OPENFILE(\"a\", i); WRITEINT(i); NEWFILE(\"a\", i); WRITEINT(i); OPENFILE(\"a\", j); WRITEINT(j); OPENFILE(\"b\", i); "
        + "WRITEINT(i)", 1, "-101-1");
    does("FOR i := 1 TO 7 DO NEWFILE(\"a\", j); WRITEINT(j) END; CLOSEFILE(2); CLOSEFILE(4); OPENFILE(\"a\", j); WRITEINT(j); "
        + "OPENFILE(\"a\", j); WRITEINT(j); OPENFILE(\"a\", j); WRITEINT(j)", 1, "012345-124-1");
    does("NEWFILE(\"a\", i); WRITEBYTE(i, 5); FOR j := 1 TO 5 DO OPENFILE(\"a\", a[0]) END; NEWFILE(\"b\", i); WRITEINT(i); "
        + "NEWFILE(\"a\", i); WRITEINT(i); WRITEINT(LENGTH(0))", 1, "-1-11");
    Mill none = new Mill("no number is free");
    none.does("FOR j := 1 TO 6 DO NEWFILE(\"a\", i) END; NEWFILE(\"b\", i); WRITEINT(i)", 1, "-1");
    none.refused("nothing is done", none.x.file(1, 0), 2);
    none.does("OPENFILE(\"a\", i); WRITEBYTE(i, 1)", 1, "");
    none.taken("file(0, 0)", none.x.file(0, 0), 1);
    none.does("NEWFILE(\"a\", i); WRITEINT(i); WRITEINT(LENGTH(i))", 1, "00");
    none.taken("made empty", none.x.file(0, 0), 0);
    Mill m = new Mill("12 FILES");
    StringBuilder twelve = new StringBuilder();
    for (char c = 'a'; c <= 'm'; c++) {
      twelve.append("NEWFILE(\"").append(c).append("\", i); WRITEINT(i); IF i >= 0 THEN CLOSEFILE(i) END; ");
    }
    m.does(twelve + "NEWFILE(\"b\", i); WRITEINT(i); DELETEFILE(\"e\"); NEWFILE(\"m\", i); WRITEINT(i)", 1, "000000000000-101");
    m.taken("name(4, 0)", m.x.name(4, 0), 'm');
    m.taken("name(11, 0)", m.x.name(11, 0), 'l');
    m.refused("name(12, 0)", m.x.name(12, 0), 2);
    m.taken("fresh()", m.x.fresh(), 12);
  }

  private static void bytes() {
    does("NEWFILE(\"a\", i); FOR j := 1 TO 5 DO WRITEBYTE(i, j) END; SETPOS(i, 1); READBYTE(i, j); WRITEINT(j); WRITEBYTE(i, 99); "
        + "READBYTE(i, j); WRITEINT(j); WRITEINT(LENGTH(i)); SETPOS(i, -5); READBYTE(i, j); WRITEINT(j); SETPOS(i, 2); READBYTE(i, j); "
        + "WRITEINT(j); SETPOS(i, 400); READBYTE(i, j); WRITEINT(j); WRITEBYTE(i, 6); WRITEINT(LENGTH(i))", 1, "245199-16");
    does("NEWFILE(\"a\", i); WRITEBYTE(i, 256); WRITEBYTE(i, -1); WRITEBYTE(i, 32767); SETPOS(i, 0); READBYTE(i, j); WRITEINT(j); "
        + "READBYTE(i, j); WRITEINT(j); READBYTE(i, j); WRITEINT(j); READBYTE(i, j); WRITEINT(j); READBYTE(i, j); WRITEINT(j)", 1,
        "0255255-1-1");
    does("NEWFILE(\"a\", i); OPENFILE(\"a\", j); WRITEBYTE(i, 7); READBYTE(j, a[0]); READBYTE(j, a[1]); WRITEBYTE(i, 8); "
        + "READBYTE(j, a[2]); WRITEINT(a[0]); WRITEINT(a[1]); WRITEINT(a[2])", 1, "7-18");
    does("NEWFILE(\"a\", i); WRITEBYTE(i, 7); WRITEBYTE(i, 8); NEWFILE(\"a\", j); WRITEINT(j); WRITEINT(LENGTH(i)); WRITEBYTE(i, 9); "
        + "READBYTE(j, a[0]); WRITEINT(a[0]); WRITEINT(LENGTH(j))", 1, "1091");
    does("NEWFILE(\"a\", i); WRITEBYTE(i, 3); READBYTE(i, a[i + 1]); WRITEINT(a[1])", 1, "-1");
  }

  private static void names() {
    Mill m = new Mill("names");
    String forty = "0123456789012345678901234567890123456789";
    m.does("NEWFILE(\"\", i); WRITEBYTE(i, 1); NEWFILE(\"" + forty + "\", i); NEWFILE(\"ab\", i); NEWFILE(\"a\", i); OPENFILE(\"\", j); "
        + "WRITEINT(LENGTH(j)); DELETEFILE(\"b\"); DELETEFILE(\"ab\"); OPENFILE(\"ab\", i); WRITEINT(i)", 1, "1-1");
    m.taken("file(0, 2)", m.x.file(0, 2), 0);
    m.refused("name(0, 0)", m.x.name(0, 0), 2);
    m.taken("file(1, 2)", m.x.file(1, 2), 40);
    m.taken("name(1, 39)", m.x.name(1, 39), '9');
    m.refused("name(1, 40)", m.x.name(1, 40), 2);
    m.refused("name(1, -1)", m.x.name(1, -1), 2);
    m.refused("file(2, 0)", m.x.file(2, 0), 2);
    m.taken("file(3, 2)", m.x.file(3, 2), 1);
    m.taken("name(3, 0)", m.x.name(3, 0), 'a');
  }

  private static void sectors() {
    Mill m = new Mill("SECTORS");
    m.does("NEWFILE(\"a\", i); FOR j := 1 TO 17 DO WRITEBYTE(i, 65) END; "
        + "NEWFILE(\"b\", i); WRITEBYTE(i, 66); WRITEBYTE(0, 67); "
        + "FOR j := 1 TO 15 DO WRITEBYTE(0, 68) END; NEWFILE(\"c\", i); WRITEINT(LENGTH(0))", 1, "33");
    int[] a = {33, 3, 1, 0, 1, 3};
    for (int what = 0; what < a.length; what++) {
      m.taken("file(0, " + what + ")", m.x.file(0, what), a[what]);
    }
    m.refused("file(0, 6)", m.x.file(0, 6), 1);
    m.refused("file(0, -1)", m.x.file(0, -1), 1);
    m.refused("file(3, -1)", m.x.file(3, -1), 2);
    m.refused("file(-1, 0)", m.x.file(-1, 0), 2);
    m.refused("file(12, 0)", m.x.file(12, 0), 2);
    m.taken("file(1, 3)", m.x.file(1, 3), 2);
    m.refused("file(1, 4)", m.x.file(1, 4), 1);
    m.taken("file(2, 0)", m.x.file(2, 0), 0);
    m.taken("file(2, 1)", m.x.file(2, 1), 0);
    m.refused("file(2, 3)", m.x.file(2, 3), 1);
    m.taken("read(0, 0)", m.x.read(0, 0), 65);
    m.taken("read(0, 17)", m.x.read(0, 17), 67);
    m.taken("read(0, 32)", m.x.read(0, 32), 68);
    m.refused("read(0, 33)", m.x.read(0, 33), 2);
    m.refused("read(0, -1)", m.x.read(0, -1), 2);
    m.refused("read(3, 0)", m.x.read(3, 0), 2);
    m.refused("read(-1, 0)", m.x.read(-1, 0), 2);
    m.due("sector(1)", m.x.sector(1), 0x4141414141414141L);
    m.due("sector(2)", m.x.sector(2), 0x4143444444444444L);
    m.due("sector(4)", m.x.sector(4), 66L << 56);
    m.due("sector(6)", m.x.sector(6), 68L << 56);
    m.due("sector(-1)", m.x.sector(-1), 0);
    m.due("sector(128)", m.x.sector(128), 0);
    m.does("DELETEFILE(\"a\"); NEWFILE(\"d\", i); WRITEBYTE(i, 1); NEWFILE(\"b\", j); WRITEBYTE(i, 2)", 1, "");
    m.taken("what is deleted gives its number free", m.x.name(0, 0), 'd');
    m.taken("and its SECTORS", m.x.file(0, 3), 0);
    m.due("the bytes stay there", m.x.sector(0), 0x0102414141414141L);
    m.due("those of what is made empty, too", m.x.sector(4), 66L << 56);
    m.taken("file(1, 0)", m.x.file(1, 0), 0);
    m.does("NEWFILE(\"e\", i); FOR j := 1 TO 17 DO WRITEBYTE(i, 9) END", 1, "");
    m.taken("the least that is free", m.x.file(3, 3), 1);
    m.taken("the next one", m.x.file(3, 4), 2);
  }

  private static void traps() {
    String[] all = {"i := LENGTH(%)", "READBYTE(%, i)", "WRITEBYTE(%, 1)", "SETPOS(%, 0)", "CLOSEFILE(%)"};
    for (String one : all) {
      does(one.replace("%", "0"), 18, "");
      does(one.replace("%", "-1"), 18, "");
      does("NEWFILE(\"a\", i); " + one.replace("%", "6"), 18, "");
      does("NEWFILE(\"a\", i); " + one.replace("%", "1"), 18, "");
      does("NEWFILE(\"a\", i); " + one.replace("%", "0"), 1, "");
      does("NEWFILE(\"a\", i); CLOSEFILE(i); " + one.replace("%", "0"), 18, "");
      does("NEWFILE(\"a\", i); DELETEFILE(\"a\"); NEWFILE(\"b\", i); CLOSEFILE(i); " + one.replace("%", "0"), 18, "");
    }
    does("DELETEFILE(\"none\"); WRITECHAR(\"o\")", 1, "o");
    does("READBYTE(9, a[9])", 13, "");
    Mill m = new Mill("no SECTOR is free");
    m.begin(Mill.in("NEWFILE(\"a\", i); FOR j := 1 TO 1008 DO WRITEBYTE(i, j) END; NEWFILE(\"b\", i); LOOP WRITEBYTE(i, 7) END"));
    m.taken("run", m.x.run(20000), 18);
    m.taken("file(0, 1)", m.x.file(0, 1), 63);
    m.taken("file(1, 0)", m.x.file(1, 0), 16);
    m.taken("file(1, 3)", m.x.file(1, 3), 63);
    m.due("sector(127)", m.x.sector(127), 0x0707070707070707L);
    m.does("OPENFILE(\"a\", i); SETPOS(i, 1000); WRITEBYTE(i, 1); WRITEINT(LENGTH(i)); SETPOS(i, 2000); WRITEBYTE(i, 1)", 18, "1008");
    m.taken("file(0, 0)", m.x.file(0, 0), 1008);
    Mill one = new Mill("all SECTORS in one file");
    one.begin(Mill.in("NEWFILE(\"a\", i); LOOP WRITEBYTE(i, 1) END"));
    one.taken("run", one.x.run(20000), 18);
    one.taken("file(0, 0)", one.x.file(0, 0), 1024);
    one.taken("file(0, 66)", one.x.file(0, 66), 63);
    one.refused("file(0, 67)", one.x.file(0, 67), 1);
    one.taken("read(0, 1023)", one.x.read(0, 1023), 1);
  }

  private static void stays() {
    Mill m = new Mill("the disk stays as it is");
    m.does("NEWFILE(\"a\", i); WRITEBYTE(i, 5); OPENFILE(\"a\", i)", 1, "");
    m.due("OPEN", m.x.seen(7), 2);
    m.x.link(0);
    m.due("OPEN till the next start()", m.x.seen(7), 2);
    m.taken("file(0, 0)", m.x.file(0, 0), 1);
    m.x.start();
    m.due("OPEN", m.x.seen(7), 0);
    m.does("OPENFILE(\"a\", i); WRITEINT(i); READBYTE(i, j); WRITEINT(j)", 1, "05");
  }
}
