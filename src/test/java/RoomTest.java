import java.lang.reflect.Field;
import java.lang.reflect.Modifier;
import java.nio.file.Files;
import java.nio.file.Path;

/** LANGUAGE.md: how much room an object takes, how deep its calls go, and words that may not stand in the class. */
final class RoomTest {
  public static void main(String[] args) throws Exception {
    room();
    deepestCalls();
    source();
    Mill.end();
  }

  private static void room() throws Exception {
    Mill m = new Mill("room");
    long[] before = Picture.room(m.x);
    System.out.println("an object takes " + before[0] + " objects, " + before[1] + " fields and elements");
    m.due("objects stay under 10,000", before[0] < 10000 ? 1 : 0, 1);
    m.due("fields and elements stay under 400,000", before[1] < 400000 ? 1 : 0, 1);
    m.ends(Mill.in("FOR i := 1 TO 99 DO WRITEINT(i) END; NEWFILE(\"a\", i); WRITEBYTE(i, 1)"), 1, all());
    long[] after = Picture.room(m.x);
    m.due("calls make no objects", after[0], before[0]);
    m.due("nor elements", after[1], before[1]);
  }

  private static String all() {
    StringBuilder text = new StringBuilder();
    for (int i = 1; i <= 99; i++) {
      text.append(i);
    }
    return text.toString();
  }

  /** The deepest calls and EXPRESSIONS in the machine: no operand may be lost. */
  private static void deepestCalls() {
    StringBuilder deep = new StringBuilder("g()");
    for (int i = 0; i < 18; i++) {
      deep.insert(0, "h(1, 1, 1, 1, 1, 1, 1, 1 + 1 * ").append(")");
    }
    Mill m = new Mill("deepest calls");
    String head = "MODULE M; VAR n, most: INTEGER; PROCEDURE h(a, b, c, d, e, f, g, x: INTEGER): INTEGER; BEGIN "
        + "RETURN a + b + c + d + e + f + g + x - 7 END h; ";
    m.ends(head + "PROCEDURE g(): INTEGER; BEGIN INC(n); IF n = 197 THEN RETURN 0 END; RETURN " + deep + " END g; "
        + "BEGIN most := g(); WRITEINT(most) END M.", 1, Integer.toString(196 * 18));
    m.due("no words are in use", m.x.seen(4), 0);
    m.right(head + "PROCEDURE g(): INTEGER; BEGIN RETURN " + deep + " END g; BEGIN n := g() END M.");
    m.x.link(0);
    m.x.start();
    m.due("it comes to its TRAP", m.x.run(20000), 15);
    m.due("words in use", m.x.seen(4), 1600);
  }

  private static void source() throws Exception {
    Mill m = new Mill("the source");
    String text = Files.readString(Path.of("src/main/java/UnitMill.java"));
    String code = text.replaceAll("(?s)/\\*.*?\\*/", "").replaceAll("//[^\n]*", "").replaceAll("\"[^\"\n]*\"", "\"\"");
    String[] not = {"throw", "try", "catch", "finally", "synchronized", "assert", "->", "::", "package", "protected", "volatile",
        "Exact", "System.out", "Object", "HashMap", "native", "hashCode", "toString", "\" +", "+ \""};
    for (String word : not) {
      boolean isName = Character.isLetter(word.charAt(0)) && !word.equals("Exact");
      boolean stands = isName ? code.matches("(?s).*\\b" + word + "\\b.*") : code.contains(word);
      m.due("'" + word + "' stands in it", stands ? 1 : 0, 0);
    }
    int classes = code.split("\\bclass\\b", -1).length - 1;
    m.due("at most twelve classes", classes <= 12 ? 1 : 0, 1);
    int imports = 0;
    for (String line : text.split("\n")) {
      imports += line.startsWith("import ") ? 1 : 0;
    }
    m.due("one import", imports, 1);
    m.due("java.util.Arrays", text.contains("import java.util.Arrays;") ? 1 : 0, 1);
    int publicOnes = 0;
    for (java.lang.reflect.Method method : UnitMill.class.getDeclaredMethods()) {
      boolean isPrivate = Modifier.isPrivate(method.getModifiers());
      publicOnes += Modifier.isPublic(method.getModifiers()) ? 1 : 0;
      m.due(method.getName() + " is public or private", isPrivate || Modifier.isPublic(method.getModifiers()) ? 1 : 0, 1);
    }
    m.due("nineteen methods are public", publicOnes, 19);
    for (Field field : UnitMill.class.getDeclaredFields()) {
      m.due(field.getName() + " is private", Modifier.isPrivate(field.getModifiers()) ? 1 : 0, 1);
    }
  }
}
