/** How much room an object takes, and that it has enough of it for all that 512 calls can bring. */
final class RoomTest {
  public static void main(String[] args) throws Exception {
    room();
    deepestCalls();
    asManyNamesAsCanCome();
    asMuchCodeAsCanCome();
    Mill.end();
  }

  private static void room() throws Exception {
    Mill m = new Mill("room");
    long[] before = Picture.room(m.x);
    System.out.println("an object takes " + before[0] + " objects, " + before[1] + " fields and elements");
    m.due("objects stay under 10,000", before[0] < 10000 ? 1 : 0, 1);
    m.due("fields and elements stay under 400,000", before[1] < 400000 ? 1 : 0, 1);
    m.ends(Mill.in("FOR i := 1 TO 99 DO WRITEINT(i) END; NEWFILE(\"a\", i); WRITEBYTE(i, 1)"), 1, all());
    long[] after = Picture.room(m.x);
    m.due("calls make no objects", after[0], before[0]);
    m.due("nor elements", after[1], before[1]);
  }

  private static String all() {
    StringBuilder text = new StringBuilder();
    for (int i = 1; i <= 99; i++) {
      text.append(i);
    }
    return text.toString();
  }

  /** The deepest calls and EXPRESSIONS in the machine: no operand may be lost. */
  private static void deepestCalls() {
    StringBuilder deep = new StringBuilder("g()");
    for (int i = 0; i < 18; i++) {
      deep.insert(0, "h(1, 1, 1, 1, 1, 1, 1, 1 + 1 * ").append(")");
    }
    Mill m = new Mill("deepest calls");
    String head = "MODULE M; VAR n, most: INTEGER; PROCEDURE h(a, b, c, d, e, f, g, x: INTEGER): INTEGER; BEGIN "
        + "RETURN a + b + c + d + e + f + g + x - 7 END h; ";
    m.ends(head + "PROCEDURE g(): INTEGER; BEGIN INC(n); IF n = 197 THEN RETURN 0 END; RETURN " + deep + " END g; "
        + "BEGIN most := g(); WRITEINT(most) END M.", 1, Integer.toString(196 * 18));
    m.due("no words are in use", m.x.seen(4), 0);
    m.right(head + "PROCEDURE g(): INTEGER; BEGIN RETURN " + deep + " END g; BEGIN n := g() END M.");
    m.x.link(0);
    m.x.start();
    m.due("it comes to its TRAP", m.x.run(20000), 15);
    m.due("words in use", m.x.seen(4), 1600);
  }

  private static final String LETTERS = "ABCDEFGHIJKLMNOPQRSTUVWXYZabcdefghijklmnopqrstuvwxyz";
  private static final String BOTH = LETTERS + "0123456789";

  /** Texts of 4000 bytes as long as there are calls, with no NAME twice: the next one is read as if they had not been. */
  private static void asManyNamesAsCanCome() {
    Mill m = new Mill("as many NAMES as can come");
    int next = 0;
    for (int t = 0; t < 4; t++) {
      StringBuilder text = new StringBuilder("MODULE A; ");
      while (text.length() < 3990) {
        text.append(LETTERS.charAt(next % 52)).append(BOTH.charAt(next / 52 % 62));
        text.append(next >= 52 * 62 ? BOTH.charAt(next / (52 * 62)) : "").append(' ');
        next++;
      }
      m.due("compile text " + t, m.compile(text.toString()), 1);
      m.due("its place", m.x.wrong(1), 10);
    }
    m.right("MODULE lastOne; VAR someName, anotherName: INTEGER; BEGIN someName := 5; anotherName := someName * 2; WRITEINT(anotherName) END lastOne.");
    m.x.link(0);
    m.x.start();
    m.due("run(9)", m.x.run(9), 1);
    m.due("word(0, 1)", m.x.word(0, 1), 10);
  }

  /** Texts of 4000 bytes as long as there are calls, with as much to do in them as can be: each is there whole. */
  private static void asMuchCodeAsCanCome() {
    Mill m = new Mill("as much code as can come");
    int[] terms = {1950, 1949, 1948, 1947};
    for (int t = 0; t < terms.length; t++) {
      m.due("compile unit " + t, m.compile("MODULE M" + t + ";VAR i,j:INTEGER;BEGIN i:=1;j:=0" + Mill.times(terms[t], "-i") + ";i:=9 END M" + t
          + "."), 0);
    }
    m.due("one unit more", m.compile("MODULE N;VAR i,j:INTEGER;BEGIN i:=1;j:=0" + Mill.times(1500, "-i") + ";i:=9 END N."), 0);
    for (int k = 0; k <= 4; k++) {
      m.due("link(" + k + ")", m.x.link(k), 1);
      m.x.start();
      m.due("run(9)", m.x.run(9), 1);
      m.due("word(" + k + ", 0)", m.x.word(k, 0), 9);
      m.due("word(" + k + ", 1)", m.x.word(k, 1), k < 4 ? -terms[k] : -1500);
    }
  }
}
