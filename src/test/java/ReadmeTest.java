import java.io.IOException;
import java.nio.file.Files;
import java.nio.file.Path;
import java.util.HashSet;
import java.util.Set;

/** What README.md shows: each line of its Java stands in this file, and answers what is told behind it. */
final class ReadmeTest {
  private static final Mill m = new Mill("README.md");

  public static void main(String[] args) throws IOException {
    example();
    linesStandHere();
    Mill.end();
  }

  static int compile(UnitMill mill, String text) {
    for (int at = 0; at < text.length(); at += 40) {
      long[] five = new long[5];
      for (int i = 0; i < 40; i++) {
        int letter = at + i < text.length() ? text.charAt(at + i) : ' ';
        five[i / 8] = five[i / 8] << 8 | letter;
      }
      mill.feed(five[0], five[1], five[2], five[3], five[4]);
    }
    return mill.compile(text.length());
  }

  private static void example() {
    UnitMill mill = new UnitMill();
    int first = compile(mill, "DEFINITION MODULE S; VAR n: INTEGER; PROCEDURE add(x: INTEGER); END S."); // 0: it is right
    int second = compile(mill, "IMPLEMENTATION MODULE S; PROCEDURE add(x: INTEGER); BEGIN INC(n, x) END add; END S."); // 0
    int third = compile(mill, "MODULE M; FROM S IMPORT add, n; BEGIN add(40); add(2); WRITEINT(n) END M."); // 0
    int module = mill.wrong(2); // 1: M is the second NAME of units
    int units = mill.link(module); // 2: S and M
    int words = mill.start(); // 1: the variable n
    int soFar = mill.run(3); // 0: it can go on
    int steps = mill.seen(0); // 3
    int end = mill.run(20000); // 1: it HALTED; 10 and the number of a TRAP, if there was one
    int letter = mill.out(0); // 52: the digit 4
    int n = mill.word(0, 0); // 42
    int[] got = {first, second, third, module, units, words, soFar, steps, end, letter, n};
    int[] due = {0, 0, 0, 1, 2, 1, 0, 3, 1, 52, 42};
    for (int i = 0; i < due.length; i++) {
      m.due("row " + i + " of the first example", got[i], due[i]);
    }
    whatIsNotRight(mill, module);
  }

  private static void whatIsNotRight(UnitMill mill, int module) {
    int wrong = compile(mill, "MODULE M; BEGIN x := 1 END M."); // 2: a NAME that means nothing
    int place = mill.wrong(1); // 16: its first byte
    int again = compile(mill, "DEFINITION MODULE S; VAR n: INTEGER; END S."); // 0: S has another KEY now
    int key = mill.unit(0, 0); // 2
    int old = mill.link(module); // -21: -20 less the number of M, whose import is OLD
    int refused = mill.start(); // -1
    int why = mill.status(); // 4: nothing is LINKED
    int[] got = {wrong, place, again, key, old, refused, why};
    int[] due = {2, 16, 0, 2, -21, -1, 4};
    for (int i = 0; i < due.length; i++) {
      m.due("row " + i + " of the second example", got[i], due[i]);
    }
  }

  private static void linesStandHere() throws IOException {
    Set<String> here = new HashSet<>();
    for (String line : Files.readString(Path.of("src/test/java/ReadmeTest.java")).split("\n")) {
      here.add(line.trim());
    }
    String[] parts = Files.readString(Path.of("README.md")).split("```");
    int shown = 0;
    for (int i = 1; i < parts.length; i += 2) {
      if (parts[i].startsWith("java\n")) {
        for (String line : parts[i].substring(5).split("\n")) {
          shown++;
          m.due("'" + line + "' stands in ReadmeTest", here.contains(line.trim()) ? 1 : 0, 1);
        }
      }
    }
    m.due("README.md shows Java", shown > 0 ? 1 : 0, 1);
  }
}
