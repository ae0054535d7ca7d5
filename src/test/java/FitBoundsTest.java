import java.util.Arrays;
import java.util.List;

/** WRONG 4 and 5: each operator with each pair of TYPES, each ARGUMENT with each thing that may stand there, each CONSTANT. */
final class FitBoundsTest {
  private static final String[] TYPES = {"INTEGER", "CHAR", "BOOLEAN", "PROCESS"};
  private static final String[] VARIABLES = {"i", "c", "b", "p"};
  private static final String HEAD = "MODULE A; CONST k = 1; l = \"l\"; t = TRUE; VAR i: INTEGER; c: CHAR; b: BOOLEAN; p: PROCESS; "
      + "a: ARRAY 5 OF INTEGER; d: ARRAY 5 OF CHAR; PROCEDURE n; END n; PROCEDURE f(x: INTEGER): INTEGER; BEGIN RETURN x END f; "
      + "PROCEDURE h(x: INTEGER): CHAR; BEGIN RETURN \"h\" END h; ";
  private static final String[] THINGS = {"i", "c", "b", "p", "1", "-1", "\"x\"", "\"xy\"", "\"\"", "TRUE", "k", "l", "t", "a", "d", "a[1]",
      "d[1]", "(i)", "(c)", "(p)", "n", "f(1)", "h(1)", "i + 1", "i = 1", "NOT b", "HALT", "ORD(c)"};
  private static final String INTEGERS = "i 1 -1 k a[1] (i) f(1) i+1 ORD(c)";
  private static final String CHARS = "c \"x\" l d[1] (c) h(1)";
  private static final String BOOLEANS = "b TRUE t i=1 NOTb";
  private static final String PROCESSES = "p (p)";

  public static void main(String[] args) {
    operators();
    signsAlone();
    wantedTypes();
    results();
    standardArguments();
    howMany();
    toldArguments();
    constNames();
    constants();
    constantsThatTrap();
    sizesOfArrays();
    byOfFor();
    Mill.end();
  }

  private static void right(String statements) {
    Mill.isRight("fits", HEAD + "BEGIN " + statements + " END A.");
  }

  private static void wrong(String statements) {
    Mill.isWrong("does not fit", 4, HEAD + "BEGIN " + statements + " END A.");
  }

  private static void fits(boolean does, String marked) {
    if (does) {
      right(marked.replace("^", ""));
    } else {
      wrong(marked);
    }
  }

  /** Of an operator, at its sign. */
  private static void operators() {
    for (String sign : "+ - * DIV MOD AND OR = # < <= > >=".split(" ")) {
      boolean ofIntegers = "+ - * DIV MOD".contains(sign);
      boolean ofBooleans = "AND OR".contains(sign);
      for (int left = 0; left < 4; left++) {
        for (int right = 0; right < 4; right++) {
          boolean same = left == right;
          boolean does = ofIntegers ? same && left == 0 : ofBooleans ? same && left == 2
              : "= #".contains(sign) ? same && left < 3 : same && left < 2;
          String result = ofIntegers ? "i" : "b";
          fits(does, result + " := " + VARIABLES[left] + " ^" + sign + " " + VARIABLES[right]);
        }
      }
    }
  }

  private static void signsAlone() {
    for (int type = 0; type < 4; type++) {
      fits(type == 0, "i := ^- " + VARIABLES[type]);
      fits(type == 0, "i := ^+ " + VARIABLES[type]);
      fits(type == 2, "b := ^NOT " + VARIABLES[type]);
      fits(type == 0, "i := 1 + (^- " + VARIABLES[type] + ")");
      fits(type == 2, "b := b AND ^NOT " + VARIABLES[type]);
    }
    wrong("i := ^-i = i");
  }

  /** Of an EXPRESSION, at its first word: another TYPE than is wanted. */
  private static void wantedTypes() {
    for (int type = 0; type < 4; type++) {
      String v = VARIABLES[type];
      for (int place = 0; place < 4; place++) {
        fits(place == type, VARIABLES[place] + " := ^" + v);
      }
      fits(type == 0, "a[0] := ^" + v);
      fits(type == 1, "d[0] := ^" + v);
      fits(type == 0, "a[^" + v + "] := 1");
      fits(type == 0, "i := a[^" + v + "]");
      fits(type == 0, "INC(a[^" + v + "])");
      fits(type == 2, "IF ^" + v + " THEN END");
      fits(type == 2, "IF b THEN ELSIF ^" + v + " THEN END");
      fits(type == 2, "WHILE ^" + v + " DO END");
      fits(type == 2, "REPEAT UNTIL ^" + v);
      fits(type == 0, "FOR i := ^" + v + " TO 2 DO END");
      fits(type == 0, "FOR i := 1 TO ^" + v + " DO END");
    }
    wrong("i := ^i = i");
    wrong("b := ^i + i");
    wrong("IF ^(i) THEN END");
    wrong("i := a[^i = i]");
    wrong("FOR i := 1 TO 2 BY ^TRUE DO END");
    wrong("FOR i := 1 TO 2 BY ^l DO END");
  }

  private static void results() {
    for (int result = 0; result < 4; result++) {
      for (int type = 0; type < 4; type++) {
        String text = HEAD + "PROCEDURE r(): " + TYPES[result] + "; BEGIN RETURN ^" + VARIABLES[type] + " END r; END A.";
        if (result == type) {
          Mill.isRight("a function's RETURN", text.replace("^", ""));
        } else {
          Mill.isWrong("a function's RETURN", 4, text);
        }
      }
      Mill.isWrong("RETURN without an EXPRESSION in a function", 4,
          HEAD + "PROCEDURE r(): " + TYPES[result] + "; BEGIN ^RETURN END r; END A.");
    }
    for (String begins : "1 \"a\" x + - ( TRUE FALSE NOT".split(" ")) {
      Mill.isWrong("RETURN with one in none", 4, HEAD + "PROCEDURE r; BEGIN ^RETURN " + begins + " END r; END A.");
      Mill.isWrong("RETURN with one in a unit's BODY", 4, HEAD + "BEGIN ^RETURN " + begins + " END A.");
    }
    Mill.isRight("RETURN in none", HEAD + "PROCEDURE r; BEGIN RETURN END r; BEGIN RETURN END A.");
  }

  private static boolean isOne(String thing, String of) {
    List<String> all = Arrays.asList(of.split(" "));
    return all.contains(thing.replace(" ", ""));
  }

  /** For each thing that may stand in a call in the place of % whether it fits there. */
  private static void argument(String call, String right) {
    for (String thing : THINGS) {
      fits(isOne(thing, right), call.replace("%", "^" + thing));
    }
  }

  private static void standardArguments() {
    argument("i := ORD(%)", CHARS + " " + BOOLEANS);
    argument("c := CHR(%)", INTEGERS);
    argument("i := ABS(%)", INTEGERS);
    argument("b := ODD(%)", INTEGERS);
    argument("i := LENGTH(%)", INTEGERS);
    String[] changes = {"INC", "DEC"};
    for (String change : changes) {
      argumentByVar(change + "(%)", "i a[1]");
      argumentByVar(change + "(%, 1)", "i a[1]");
      argument(change + "(i, %)", INTEGERS);
    }
    argument("WRITEINT(%)", INTEGERS);
    argument("WRITECHAR(%)", CHARS);
    argumentOfString("WRITESTRING(%)");
    argumentByVar("READINT(%)", "i a[1]");
    argumentByVar("NEWPROCESS(%, 16, p)", "n");
    argument("NEWPROCESS(n, %, p)", INTEGERS);
    argumentByVar("NEWPROCESS(n, 16, %)", "p");
    argumentByVar("TRANSFER(%, p)", "p");
    argument("TRANSFER(p, %)", PROCESSES);
    argumentByVar("IOTRANSFER(%, p)", "p");
    argumentByVar("IOTRANSFER(p, %)", "p");
    argumentOfString("OPENFILE(%, i)");
    argumentByVar("OPENFILE(\"a\", %)", "i a[1]");
    argumentOfString("NEWFILE(%, i)");
    argumentByVar("NEWFILE(\"a\", %)", "i a[1]");
    argument("READBYTE(%, i)", INTEGERS);
    argumentByVar("READBYTE(i, %)", "i a[1]");
    argument("WRITEBYTE(%, 1)", INTEGERS);
    argument("WRITEBYTE(1, %)", INTEGERS);
    argument("SETPOS(%, 1)", INTEGERS);
    argument("SETPOS(1, %)", INTEGERS);
    argument("CLOSEFILE(%)", INTEGERS);
    argumentOfString("DELETEFILE(%)");
  }

  /** A PLACE or a NAME alone: what stands behind it is a word that can't stand there. */
  private static void argumentByVar(String call, String right) {
    for (String thing : THINGS) {
      boolean goesOn = thing.equals("i + 1") || thing.equals("i = 1");
      if (!goesOn) {
        fits(isOne(thing, right), call.replace("%", "^" + thing));
      } else if (isOne("i", right)) {
        Mill.isWrong("a PLACE alone", 1, HEAD + "BEGIN " + call.replace("%", thing.replace("i ", "i ^")) + " END A.");
      } else {
        wrong(call.replace("%", "^" + thing));
      }
    }
  }

  private static void argumentOfString(String call) {
    for (String thing : THINGS) {
      fits(thing.startsWith("\""), call.replace("%", "^" + thing));
    }
    right(call.replace("%", "\"0123456789012345678901234567890123456789\""));
  }

  /** At a NAME that is called: an ARGUMENT more, as it begins; less of them, behind the ) or the NAME without (. */
  private static void howMany() {
    String[] calls = {
      "i := ^ORD(c)", "c := ^CHR(i)", "i := ^ABS(i)", "b := ^ODD(i)", "i := ^LENGTH(i)", "^INC(i, i)", "^DEC(i, i)", "^HALT()", "^WRITEINT(i)",
      "^WRITECHAR(c)", "^WRITESTRING(\"ab\")", "^WRITELN()", "^READINT(i)", "^NEWPROCESS(n, i, p)", "^TRANSFER(p, p)", "^IOTRANSFER(p, p)",
      "^OPENFILE(\"ab\", i)", "^NEWFILE(\"ab\", i)", "^READBYTE(i, i)", "^WRITEBYTE(i, i)", "^SETPOS(i, i)", "^CLOSEFILE(i)",
      "^DELETEFILE(\"ab\")", "^n()", "i := ^f(i)", "c := ^h(i)",
    };
    for (String call : calls) {
      right(call.replace("^", ""));
      int open = call.indexOf('(');
      boolean none = call.endsWith("()");
      wrong(call.substring(0, call.length() - 1) + (none ? "" : ", ") + "i)");
      wrong(call.substring(0, call.length() - 1) + (none ? "" : ", ") + "none @");
      wrong(call.substring(0, call.length() - 1) + (none ? "" : ", ") + "\"ab\", 1)");
      boolean mayLack = call.contains("INC") || call.contains("DEC");
      int comma = call.lastIndexOf(',');
      if (!none && !mayLack) {
        wrong(call.substring(0, comma < 0 ? open + 1 : comma) + ")");
        wrong(call.substring(0, open) + "()");
      }
      boolean function = call.contains(":=");
      if (none && !function) {
        right(call.substring(0, open).replace("^", ""));
      } else {
        wrong(call.substring(0, open));
      }
    }
    right("INC(i); DEC(i); INC(i, 1); DEC(i, 1)");
    wrong("^INC()");
    wrong("^DEC()");
  }

  /** Procedures of a unit: GROUPS of each SIMPLE, by VAR, and of ARRAYS by number and SIMPLE. */
  private static void toldArguments() {
    String[] right = {INTEGERS, CHARS, BOOLEANS, PROCESSES};
    String[] byVar = {"i a[1]", "c d[1]", "b", "p"};
    for (int type = 0; type < 4; type++) {
      told("x: " + TYPES[type], right[type], false);
      told("VAR x: " + TYPES[type], byVar[type], true);
    }
    told("VAR x: ARRAY 5 OF INTEGER", "a", true);
    told("VAR x: ARRAY 2 + 3 OF CHAR", "d", true);
    told("VAR x: ARRAY 4 OF INTEGER", "", true);
    told("VAR x: ARRAY 6 OF CHAR", "", true);
    told("VAR x: ARRAY 5 OF BOOLEAN", "", true);
    told("VAR x: ARRAY 1 OF INTEGER", "", true);
  }

  private static void told(String group, String right, boolean byVar) {
    for (String thing : THINGS) {
      boolean goesOn = thing.equals("i + 1") || thing.equals("i = 1");
      String text = HEAD + "PROCEDURE g(" + group + "); END g; BEGIN g(^" + thing + ") END A.";
      if (isOne(thing, right)) {
        Mill.isRight("an ARGUMENT", text.replace("^", ""));
      } else if (byVar && goesOn && isOne("i", right)) {
        Mill.isWrong("a PLACE alone", 1, text.replace("^i ", "i ^"));
      } else {
        Mill.isWrong("an ARGUMENT", 4, text);
      }
    }
  }

  /** CONST are NUMBERS, STRINGS of one byte, TRUE, FALSE, NAMES of CONSTS, and what operators, ORD, CHR, ABS, ODD make of these. */
  private static void constNames() {
    String[] right = {"1", "\"x\"", "TRUE", "FALSE", "k", "l", "t", "-1", "+k", "NOT t", "k + 1", "k - 1", "k * 2", "k DIV 2", "k MOD 2",
        "t AND FALSE", "t OR FALSE", "k = 1", "l # \"x\"", "k < 2", "k <= 2", "l > \"x\"", "l >= \"x\"", "(k)", "ORD(l)", "ORD(t)", "CHR(k)",
        "ABS(-k)", "ODD(k)", "ORD(CHR(ABS(-k))) + ORD(ODD(k))"};
    for (String one : right) {
      Mill.isRight("a CONSTANT", HEAD + "CONST z = " + one + "; END A.");
    }
    String[] wrong = {"i", "c", "b", "p", "a[1]", "a[k]", "f(1)", "f(k)", "h(1)", "LENGTH(1)", "LENGTH(k)", "-i", "+i", "NOT b", "i + 1", "1 + i",
        "i = 1", "1 = i", "t AND b", "b AND t", "FALSE AND b", "TRUE OR b", "b OR t", "(i)", "ORD(c)", "ORD(b)", "CHR(i)", "ABS(i)", "ODD(i)",
        "ABS(a[1])", "ABS(f(1))", "0 * i", "i - i", "1 + ABS(i)", "ORD(CHR(i))", "i DIV 0", "1 DIV 0 + i"};
    for (String one : wrong) {
      Mill.isWrong("no CONSTANT", 4, HEAD + "CONST z = ^" + one + "; END A.");
      Mill.isWrong("no CONSTANT", 4, HEAD + "VAR z: ARRAY ^" + one + " OF CHAR; END A.");
      Mill.isWrong("no CONSTANT", 4, HEAD + "BEGIN FOR i := 1 TO 2 BY ^" + one + " DO END END A.");
    }
    Mill.isWrong("a function that hides ORD", 4, "MODULE A; PROCEDURE ORD(x: CHAR): INTEGER; END ORD; CONST z = ^ORD(\"a\"); END A.");
    Mill.isWrong("an imported variable", 4, "MODULE A; VAR x: INTEGER; CONST z = ^x; END A.");
  }

  /** What a CONSTANT is, is what the machine makes of it. */
  private static void constants() {
    String[][] all = {
      {"0", "0"}, {"32767", "32767"}, {"-32767 - 1", "-32768"}, {"7 DIV 2", "3"}, {"(-7) DIV 2", "-4"}, {"-7 DIV 2", "-3"}, {"7 MOD 3", "1"},
      {"(-7) MOD 3", "2"}, {"-7 MOD 3", "-1"}, {"0 DIV 5", "0"}, {"(-1) DIV 32767", "-1"}, {"(-1) MOD 32767", "32766"}, {"3 * -4", ""},
      {"3 * (-4)", "-12"}, {"1 - 2 - 3", "-4"}, {"2 + 3 * 4", "14"}, {"(2 + 3) * 4", "20"}, {"-(2 + 3)", "-5"}, {"+5", "5"}, {"ABS(-5)", "5"},
      {"ABS(5)", "5"}, {"ABS(-32767)", "32767"}, {"ABS(0)", "0"}, {"ORD(\"a\")", "97"}, {"ORD(CHR(255))", "255"}, {"ORD(CHR(0))", "0"},
      {"ORD(TRUE)", "1"}, {"ORD(FALSE)", "0"}, {"ORD(ODD(3))", "1"}, {"ORD(ODD(4))", "0"}, {"ORD(ODD(-3))", "1"}, {"ORD(ODD(-4))", "0"},
      {"ORD(ODD(-32767 - 1))", "0"}, {"ORD(TRUE AND TRUE)", "1"}, {"ORD(TRUE AND FALSE)", "0"}, {"ORD(FALSE AND TRUE)", "0"},
      {"ORD(FALSE AND FALSE)", "0"}, {"ORD(TRUE OR TRUE)", "1"}, {"ORD(TRUE OR FALSE)", "1"}, {"ORD(FALSE OR TRUE)", "1"},
      {"ORD(FALSE OR FALSE)", "0"}, {"ORD(NOT TRUE)", "0"}, {"ORD(NOT FALSE)", "1"}, {"ORD(1 = 1)", "1"}, {"ORD(1 = 2)", "0"},
      {"ORD(1 # 1)", "0"}, {"ORD(1 # 2)", "1"}, {"ORD(1 < 1)", "0"}, {"ORD(1 < 2)", "1"}, {"ORD(2 < 1)", "0"}, {"ORD(1 <= 1)", "1"},
      {"ORD(1 <= 2)", "1"}, {"ORD(2 <= 1)", "0"}, {"ORD(1 > 1)", "0"}, {"ORD(1 > 2)", "0"}, {"ORD(2 > 1)", "1"}, {"ORD(1 >= 1)", "1"},
      {"ORD(1 >= 2)", "0"}, {"ORD(2 >= 1)", "1"}, {"ORD(-1 < 1)", "1"}, {"ORD(\"a\" < \"b\")", "1"}, {"ORD(CHR(128) > \"a\")", "1"},
      {"ORD(TRUE = TRUE)", "1"}, {"ORD(TRUE # TRUE)", "0"}, {"ORD(TRUE = FALSE)", "0"}, {"181 * 181", "32761"}, {"(-128) * 256", "-32768"},
      {"ORD(TRUE OR FALSE AND FALSE)", "1"}, {"ORD((TRUE OR FALSE) AND FALSE)", "0"}, {"ORD(NOT FALSE AND FALSE)", "0"},
    };
    for (String[] one : all) {
      if (one[1].isEmpty()) {
        Mill.isWrong("no CONSTANT", 1, "MODULE A; CONST z = " + one[0].replace("-", "^-") + "; END A.");
        continue;
      }
      new Mill("CONST " + one[0]).ends("MODULE A; CONST z = " + one[0] + "; y = z; BEGIN WRITEINT(z); WRITELN; WRITEINT(y) END A.", 1,
          one[1] + "\n" + one[1]);
      new Mill("WRITEINT of " + one[0]).ends("MODULE A; BEGIN WRITEINT(" + one[0] + ") END A.", 1, one[1]);
      new Mill("the same with variables").ends("MODULE A; VAR o, w: INTEGER; yes: BOOLEAN; BEGIN o := 1; w := 2; yes := TRUE; WRITEINT("
          + withVariables(one[0]) + ") END A.", 1, one[1]);
    }
    new Mill("a CHAR").ends("MODULE A; CONST z = CHR(65); BEGIN WRITECHAR(z) END A.", 1, "A");
    Mill size = new Mill("an ARRAY's CONSTANT");
    size.right("MODULE A; CONST z = ORD(\"a\") - 90; VAR x: ARRAY z * 2 OF CHAR; END A.");
    size.taken("unit(0, 4)", size.x.unit(0, 4), 14);
  }

  private static String withVariables(String constant) {
    return constant.replace("TRUE", "yes").replaceAll("\\b1\\b", "o").replaceAll("\\b2\\b", "w");
  }

  /** 5: a CONSTANT of which some part would TRAP, on both sides of each edge. */
  private static void constantsThatTrap() {
    String[] right = {"32766 + 1", "-32767 - 1", "-32766 - 2", "32767 * 1", "(-16384) * 2", "1 DIV 1", "1 MOD 1", "(-32767 - 1) DIV 1", "CHR(0)",
        "CHR(255)", "ABS(-32767)", "-(-32767)", "32767 - 32767 + 1", "-1 + 32767"};
    String[] wrong = {"32767 + 1", "-32767 - 2", "-32766 - 3", "32767 * 2", "(-16384) * 2 - 1", "-16384 * 2", "1 DIV 0", "1 MOD 0", "1 DIV (-1)", "1 MOD (-1)",
        "(-32767 - 1) DIV 0", "CHR(-1)", "CHR(256)", "CHR(32767)", "ABS(-32767 - 1)", "-(-32767 - 1)", "32767 + 1 - 1", "0 * (1 DIV 0)",
        "1 DIV 0 = 1", "ODD(32767 + 1)", "ORD(CHR(256))", "NOT (1 DIV 0 = 1)", "(32767 + 1)", "1 + (2 + (32767 + 1))", "-(1 DIV 0)",
        "1 = 1 DIV 0", "(1 DIV 0 = 1) AND FALSE", "(1 DIV 0 = 1) OR TRUE", "ABS(1 MOD 0)", "1 DIV (1 DIV 0)"};
    for (String one : right) {
      Mill.isRight("no TRAP", "MODULE A; CONST z = " + one + "; END A.");
    }
    for (String one : wrong) {
      Mill.isWrong("a part would TRAP", 5, "MODULE A; CONST z = ^" + one + "; END A.");
    }
    Mill.isWrong("a NAME's value", 5, "MODULE A; CONST y = 32767; z = ^y + 1; END A.");
    Mill.isRight("no CONSTANT is wanted", HEAD + "BEGIN i := 32767 + 1; i := 1 DIV 0; c := CHR(256); a[7] := a[-1] END A.");
    Mill.isWrong("the TYPE is looked at first", 4, "MODULE A; VAR x: ARRAY ^1 DIV 0 = 1 OF CHAR; END A.");
  }

  private static void sizesOfArrays() {
    String[] places = {"MODULE A; VAR x: ARRAY ^% OF CHAR; END A.", "DEFINITION MODULE A; VAR x: ARRAY ^% OF CHAR; END A.",
        "MODULE A; PROCEDURE p(VAR x: ARRAY ^% OF CHAR); END p; END A."};
    for (String place : places) {
      for (String right : new String[] {"1", "2", "499", "500", "250 * 2", "-1 + 2", "ORD(TRUE)"}) {
        Mill.isRight("1 to 500", place.replace("^", "").replace("%", right));
      }
      for (String wrong : new String[] {"0", "-1", "501", "32767", "-32767 - 1", "500 + 1", "1 - 1", "ORD(FALSE)", "32767 + 1"}) {
        Mill.isWrong("not 1 to 500", 5, place.replace("%", wrong));
      }
    }
    Mill.isRight("in a procedure", "MODULE A; PROCEDURE p; VAR x: ARRAY 1 OF CHAR; END p; END A.");
    Mill.isWrong("in a procedure", 5, "MODULE A; PROCEDURE p; VAR x: ARRAY ^0 OF CHAR; END p; END A.");
    Mill.isWrong("in a procedure", 5, "MODULE A; PROCEDURE p; VAR x: ARRAY ^501 OF CHAR; END p; END A.");
    Mill.isWrong("ahead of OF", 5, "MODULE A; VAR x: ARRAY ^501 @");
  }

  private static void byOfFor() {
    for (String right : new String[] {"1", "-1", "2", "32767", "-32767 - 1", "k", "ORD(TRUE)"}) {
      right("FOR i := 1 TO 2 BY " + right + " DO END");
    }
    for (String wrong : new String[] {"0", "-0", "k - 1", "ORD(FALSE)", "1 DIV 2", "32767 + 1"}) {
      Mill.isWrong("BY 0", 5, HEAD + "BEGIN FOR i := 1 TO 2 BY ^" + wrong + " DO END END A.");
    }
    Mill.isWrong("ahead of DO", 5, HEAD + "BEGIN FOR i := 1 TO 2 BY ^0 @");
  }
}
