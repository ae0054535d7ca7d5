/** What a new object answers. */
final class FaceTest {
  public static void main(String[] args) {
    Mill m = new Mill("new");
    m.due("status", m.x.status(), 0);
    m.refused("wrong(0)", m.x.wrong(0), 2);
    m.refused("link(0)", m.x.link(0), 2);
    m.refused("start", m.x.start(), 4);
    m.taken("compile(0)", m.x.compile(0), 1);
    Mill.end();
  }
}
