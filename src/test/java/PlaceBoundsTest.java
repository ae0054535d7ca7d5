import java.util.ArrayList;
import java.util.Arrays;
import java.util.List;

/**
 * WRONG 1 with its place: each text is cut behind each of its words, each of its words is changed for one that can't
 * stand there, and in each place of the grammar all words are tried.
 */
final class PlaceBoundsTest {
  /**
   * A NAME (or RETURN) with ~ behind it does not fit without the word behind it, and that is told at its own place, which
   * is come to ahead of the word that lacks or can't stand there.
   */
  private static final String[] TEXTS = {
    "DEFINITION MODULE D ; CONST c = 5 ; d = - c + 2 ; VAR x , y : INTEGER ; z : ARRAY c OF CHAR ; PROCEDURE p ( VAR a : INTEGER ; "
        + "b , e : CHAR ) : BOOLEAN ; PROCEDURE q ; CONST VAR END D .",
    "DEFINITION MODULE E ; FROM D IMPORT c ; PROCEDURE q ; END E .",
    "IMPLEMENTATION MODULE E ; FROM D IMPORT c , x ; VAR w : ARRAY c + 1 OF CHAR ; PROCEDURE p ( VAR a : INTEGER ; b , e : CHAR ) "
        + ": BOOLEAN ; VAR i : INTEGER ; VAR BEGIN FOR i := 0 TO c - 1 BY 2 DO w~ [ i ] := b END ; INC~ ( a , 3 ) ; "
        + "RETURN~ ( a < 9 ) AND NOT ODD~ ( a ) END p ; PROCEDURE q ; END q ; BEGIN x~ := 1 END E .",
    "MODULE M ; FROM D IMPORT p , x ; FROM D IMPORT c ; VAR r , s : PROCESS ; n : INTEGER ; f : ARRAY 4 OF INTEGER ; "
        + "PROCEDURE e ( ) ; BEGIN LOOP EXIT END ; RETURN END e ; BEGIN NEWPROCESS~ ( e , 40 , r ) ; TRANSFER~ ( s , r ) ; "
        + "IF p~ ( x , \"a\" , \"b\" ) THEN HALT ELSIF n~ = f~ [ 1 ] THEN e ( ) ELSE ; END ; "
        + "WHILE n~ <= 3 DO WRITESTRING~ ( \"abc\" ) END ; REPEAT UNTIL TRUE OR FALSE ; INC~ ( f~ [ n ] ) ; "
        + "n~ := n * 2 DIV 3 MOD 4 END M ."
  };

  // So many texts of these are less than 512 calls.
  private static final int OF_ONE_OBJECT = 20;

  public static void main(String[] args) {
    cut();
    changed();
    bytesOfNoWord();
    onePlaceAheadOfAnother();
    wordsOfUnits();
    wordsOfStatements();
    Mill.end();
  }

  private static Mill with(int before) {
    Mill m = new Mill("with " + before + " texts before");
    for (int i = 0; i < before; i++) {
      m.right(TEXTS[i].replace("~", ""));
    }
    return m;
  }

  private static String joined(List<String> words, int count) {
    return String.join(" ", words.subList(0, count));
  }

  /** WRONG 1 behind so many words that stand there by right, unless the last of them does not fit. */
  private static void wrongBehind(Mill m, String[] marked, int count, String rest) {
    List<String> words = new ArrayList<>();
    for (String word : marked) {
      words.add(word.replace("~", ""));
    }
    String right = joined(words, count);
    String text = rest.isEmpty() ? right : right + (count > 0 ? " " : "") + rest;
    boolean unfit = count > 0 && marked[count - 1].endsWith("~");
    int lastPlace = count > 0 ? right.length() - words.get(count - 1).length() : 0;
    int place = unfit ? lastPlace : rest.isEmpty() ? right.length() : right.length() + (count > 0 ? 1 : 0);
    m.due("compile " + text, m.compile(text), unfit ? 4 : 1);
    m.due("status()", m.x.status(), 0);
    m.due("the place in " + text, m.x.wrong(1), place);
    m.due("the unit of " + text, m.x.wrong(2), -1);
  }

  /** n of compile(n), if words lack. */
  private static void cut() {
    for (int t = 0; t < TEXTS.length; t++) {
      with(t + 1);
      String[] words = TEXTS[t].split(" ");
      Mill m = null;
      for (int count = 0; count < words.length; count++) {
        m = count % OF_ONE_OBJECT == 0 ? with(t) : m;
        wrongBehind(m, words, count, "");
      }
    }
  }

  /** A word that can't stand there, at its first byte: MODULE stands in no place but the first two, IMPORT behind FROM's NAME. */
  private static void changed() {
    for (int t = 0; t < TEXTS.length; t++) {
      String[] words = TEXTS[t].split(" ");
      Mill m = null;
      for (int count = 0; count <= words.length; count++) {
        m = count % (OF_ONE_OBJECT / 2) == 0 ? with(t) : m;
        boolean moduleStands = count < words.length && words[count].equals("MODULE") || count == 0;
        if (!moduleStands) {
          wrongBehind(m, words, count, "MODULE x");
        }
        boolean importStands = count > 1 && words[count - 2].equals("FROM");
        if (!importStands) {
          wrongBehind(m, words, count, "IMPORT x");
        }
      }
    }
  }

  private static void bytesOfNoWord() {
    String[] none = {"@", "\t", "\u00e9", "00", "32768", "\"", "\"a", "abcdefghijklmnopqrstu", "\"" + Mill.times(41, "s") + "\""};
    for (int t = 0; t < TEXTS.length; t++) {
      String[] words = TEXTS[t].split(" ");
      Mill m = null;
      for (int count = 0; count <= words.length; count++) {
        m = count % OF_ONE_OBJECT == 0 ? with(t) : m;
        wrongBehind(m, words, count, none[count % none.length] + "\n;");
      }
    }
  }

  /** Two things are WRONG: the one that is come to first is told. */
  private static void onePlaceAheadOfAnother() {
    Mill m = new Mill("the first place that is come to");
    m.wrong(1, "MODULE A^, VAR x, x: CHAR; BEGIN y := 1 END B.");
    m.wrong(3, "MODULE A; VAR x, ^x: ARRAY 0 OF CHAR; BEGIN y := 1 END B.");
    m.wrong(5, "MODULE A; VAR x: ARRAY ^0 OF x; BEGIN y := 1 END B.");
    m.wrong(2, "MODULE A; VAR x: CHAR; BEGIN ^y := 1 + TRUE END B.");
    m.wrong(4, "MODULE A; VAR x: CHAR; BEGIN x := 1 ^+ TRUE END B.");
    m.wrong(4, "MODULE A; VAR x: CHAR; BEGIN x := ^1 + 1 END B.");
    m.wrong(3, "MODULE A; VAR x: CHAR; BEGIN x := \"a\" END ^B");
    // An operator is looked at behind what it is for, an EXPRESSION behind all of it, though their places are ahead.
    m.wrong(2, Mill.in("i := TRUE + ^y"));
    m.wrong(1, Mill.in("i := TRUE + ^;"));
    m.wrong(4, Mill.in("i := TRUE ^+ 1 + y"));
    m.wrong(4, Mill.in("i := 1 + TRUE ^* y[1]").replace("y[1]", "1"));
    m.wrong(2, Mill.in("i := TRUE OR ^y"));
    m.wrong(4, Mill.in("i := (TRUE ^+ 1) @"));
    m.wrong(4, Mill.in("i := ^TRUE @"));
    m.wrong(4, Mill.in("IF ^i @"));
    m.wrong(4, Mill.in("b := ^NOT i @"));
    m.wrong(4, Mill.in("i := ^-b @"));
    m.wrong(2, Mill.in("i := -^y @"));
    m.wrong(4, Mill.in("b := i ^= c @"));
    m.wrong(2, Mill.in("b := i = ^y @"));
    m.wrong(4, Mill.in("a[^b @"));
    m.wrong(4, Mill.in("WRITEINT(^b @"));
  }

  private static final String SIMPLES = "INTEGER CHAR BOOLEAN PROCESS ";
  private static final String FACTORS = "x 1 \"s\" \"st\" ( TRUE FALSE NOT ";
  private static final String EXPRESSIONS = "+ - " + FACTORS;
  private static final String SUMS = "+ - OR * DIV MOD AND ";
  private static final String GOES_ON = SUMS + "= # < > <= >= ";
  private static final String BEGINS = "x IF WHILE REPEAT LOOP EXIT FOR RETURN ; ";
  private static final String ALL = "+ - * = # < > <= >= := ( ) [ ] , ; : . ARRAY BEGIN BY CONST DEFINITION DO ELSE ELSIF END EXIT FOR "
      + "FROM IF IMPLEMENTATION IMPORT LOOP MODULE OF PROCEDURE REPEAT RETURN THEN TO UNTIL VAR WHILE INTEGER CHAR BOOLEAN PROCESS "
      + "TRUE FALSE DIV MOD AND OR NOT x 1 \"s\" \"st\"";

  /** Behind this text, no words can stand but these: each other one is WRONG 1 there. */
  private static void only(String text, String these) {
    List<String> right = Arrays.asList(these.trim().split(" +"));
    String[] all = ALL.split(" ");
    Mill m = null;
    for (int i = 0; i < all.length; i++) {
      if (i % 30 == 0) {
        m = new Mill("words that can't stand there");
        m.right("DEFINITION MODULE D; CONST c = 1; END D.");
      }
      if (!right.contains(all[i])) {
        m.wrong(1, text + (text.isEmpty() ? "^" : " ^") + all[i] + " ;");
      }
    }
  }

  private static void wordsOfUnits() {
    only("", "DEFINITION IMPLEMENTATION MODULE");
    only("DEFINITION", "MODULE");
    only("IMPLEMENTATION", "MODULE");
    only("MODULE", "x");
    only("MODULE A", ";");
    only("MODULE A ;", "FROM CONST VAR PROCEDURE BEGIN END");
    only("IMPLEMENTATION MODULE D ;", "FROM CONST VAR PROCEDURE BEGIN END");
    only("DEFINITION MODULE A ;", "FROM CONST VAR PROCEDURE END");
    only("MODULE A ; FROM", "x");
    only("MODULE A ; FROM D", "IMPORT");
    only("MODULE A ; FROM D IMPORT", "x");
    only("MODULE A ; FROM D IMPORT c", ", ;");
    only("MODULE A ; FROM D IMPORT c ,", "x");
    only("MODULE A ; FROM D IMPORT c ;", "FROM CONST VAR PROCEDURE BEGIN END");
    only("MODULE A ; CONST", "x CONST VAR PROCEDURE BEGIN END");
    only("MODULE A ; CONST k", "=");
    only("MODULE A ; CONST k =", EXPRESSIONS);
    only("MODULE A ; CONST k = 1", "; " + GOES_ON);
    only("MODULE A ; CONST k = 1 ;", "x CONST VAR PROCEDURE BEGIN END");
    only("MODULE A ; VAR", "x CONST VAR PROCEDURE BEGIN END");
    only("MODULE A ; VAR v", ", :");
    only("MODULE A ; VAR v ,", "x");
    only("MODULE A ; VAR v :", "ARRAY " + SIMPLES);
    only("MODULE A ; VAR v : ARRAY", EXPRESSIONS);
    only("MODULE A ; VAR v : ARRAY 3", "OF " + GOES_ON);
    only("MODULE A ; VAR v : ARRAY 3 OF", SIMPLES);
    only("MODULE A ; VAR v : ARRAY 3 OF CHAR", ";");
    only("MODULE A ; VAR v : CHAR", ";");
    only("MODULE A ; VAR v : CHAR ;", "x CONST VAR PROCEDURE BEGIN END");
    only("MODULE A ; BEGIN END", "x");
    only("MODULE A ; END", "x");
    only("MODULE A ; END A", ".");
    only("MODULE A ; END A .", "");
    only("DEFINITION MODULE A ; END", "x");
    only("DEFINITION MODULE A ; END A", ".");
    wordsOfHeads();
  }

  private static void wordsOfHeads() {
    only("MODULE A ; PROCEDURE", "x");
    only("MODULE A ; PROCEDURE p", "( : ;");
    only("MODULE A ; PROCEDURE p (", "x VAR )");
    only("MODULE A ; PROCEDURE p ( v", ", :");
    only("MODULE A ; PROCEDURE p ( v ,", "x");
    only("MODULE A ; PROCEDURE p ( v :", SIMPLES);
    only("MODULE A ; PROCEDURE p ( v : CHAR", "; )");
    only("MODULE A ; PROCEDURE p ( v : CHAR ;", "x VAR");
    only("MODULE A ; PROCEDURE p ( VAR", "x");
    only("MODULE A ; PROCEDURE p ( VAR v", ", :");
    only("MODULE A ; PROCEDURE p ( VAR v :", "ARRAY " + SIMPLES);
    only("MODULE A ; PROCEDURE p ( VAR v : ARRAY 3", "OF " + GOES_ON);
    only("MODULE A ; PROCEDURE p ( VAR v : ARRAY 3 OF", SIMPLES);
    only("MODULE A ; PROCEDURE p ( )", ": ;");
    only("MODULE A ; PROCEDURE p :", SIMPLES);
    only("MODULE A ; PROCEDURE p : CHAR", ";");
    only("MODULE A ; PROCEDURE p ;", "VAR BEGIN END");
    only("MODULE A ; PROCEDURE p ; VAR", "x VAR BEGIN END");
    only("MODULE A ; PROCEDURE p ; VAR v", ", :");
    only("MODULE A ; PROCEDURE p ; VAR v : CHAR", ";");
    only("MODULE A ; PROCEDURE p ; VAR v : CHAR ;", "x VAR BEGIN END");
    only("MODULE A ; PROCEDURE p ; BEGIN", BEGINS + "END");
    only("MODULE A ; PROCEDURE p ; END", "x");
    only("MODULE A ; PROCEDURE p ; END p", ";");
    only("MODULE A ; PROCEDURE p ; END p ;", "CONST VAR PROCEDURE BEGIN END");
    only("DEFINITION MODULE A ; PROCEDURE p", "( : ;");
    only("DEFINITION MODULE A ; PROCEDURE p ;", "CONST VAR PROCEDURE END");
  }

  /** The same in a MODULE with some variables, behind these statements. */
  private static void onlyBehind(String statements, String these) {
    only("MODULE A ; VAR i : INTEGER ; b : BOOLEAN ; p : PROCESS ; a : ARRAY 5 OF INTEGER ; PROCEDURE n ; END n ; BEGIN " + statements,
        these);
  }

  private static void wordsOfStatements() {
    onlyBehind("", BEGINS + "END");
    onlyBehind("HALT", "( ; END := [");
    onlyBehind("HALT ;", BEGINS + "END");
    onlyBehind("i :=", EXPRESSIONS);
    onlyBehind("i := 1", "; END " + GOES_ON);
    onlyBehind("i := i", "( [ ; END " + GOES_ON);
    onlyBehind("i := ( 1", ") " + GOES_ON);
    onlyBehind("i := ( 1 )", "; END " + GOES_ON);
    onlyBehind("i := +", FACTORS);
    onlyBehind("i := -", FACTORS);
    onlyBehind("i := - 1", "; END " + GOES_ON);
    for (String sign : SUMS.split(" ")) {
      onlyBehind("i := 1 " + sign, FACTORS);
    }
    onlyBehind("b := NOT", FACTORS);
    onlyBehind("b := NOT b", "( [ ; END " + GOES_ON);
    for (String sign : "= # < > <= >=".split(" ")) {
      onlyBehind("b := 1 " + sign, EXPRESSIONS);
      onlyBehind("b := 1 " + sign + " 1", "; END " + SUMS);
    }
    onlyBehind("a [", EXPRESSIONS);
    onlyBehind("a [ 1", "] " + GOES_ON);
    onlyBehind("a [ 1 ]", ":=");
    onlyBehind("i := a [ 1 ]", "; END " + GOES_ON);
    onlyBehind("IF", EXPRESSIONS);
    onlyBehind("IF TRUE", "THEN " + GOES_ON);
    onlyBehind("IF TRUE THEN", BEGINS + "ELSIF ELSE END");
    onlyBehind("IF TRUE THEN ELSIF", EXPRESSIONS);
    onlyBehind("IF TRUE THEN ELSIF TRUE", "THEN " + GOES_ON);
    onlyBehind("IF TRUE THEN ELSIF TRUE THEN", BEGINS + "ELSIF ELSE END");
    onlyBehind("IF TRUE THEN ELSE", BEGINS + "END");
    onlyBehind("IF TRUE THEN END", "; END");
    onlyBehind("WHILE", EXPRESSIONS);
    onlyBehind("WHILE TRUE", "DO " + GOES_ON);
    onlyBehind("WHILE TRUE DO", BEGINS + "END");
    onlyBehind("REPEAT", BEGINS + "UNTIL");
    onlyBehind("REPEAT UNTIL", EXPRESSIONS);
    onlyBehind("REPEAT UNTIL TRUE", "; END " + GOES_ON);
    onlyBehind("LOOP", BEGINS + "END");
    onlyBehind("LOOP EXIT", "; END");
    onlyBehind("LOOP END", "; END");
    onlyBehind("FOR", "x");
    onlyBehind("FOR i", ":=");
    onlyBehind("FOR i :=", EXPRESSIONS);
    onlyBehind("FOR i := 1", "TO " + GOES_ON);
    onlyBehind("FOR i := 1 TO", EXPRESSIONS);
    onlyBehind("FOR i := 1 TO 2", "BY DO " + GOES_ON);
    onlyBehind("FOR i := 1 TO 2 BY", EXPRESSIONS);
    onlyBehind("FOR i := 1 TO 2 BY 3", "DO " + GOES_ON);
    onlyBehind("FOR i := 1 TO 2 BY 3 DO", BEGINS + "END");
    onlyBehind("RETURN", "; END " + EXPRESSIONS);
    onlyBehind("WRITEINT ( 1", ", ) " + GOES_ON);
    onlyBehind("WRITEINT ( 1 )", "; END");
    onlyBehind("i := ABS ( 1", ", ) " + GOES_ON);
    onlyBehind("i := ABS ( 1 )", "; END " + GOES_ON);
    onlyBehind("INC ( i", "[ , )");
    onlyBehind("INC ( a [ 1", "] " + GOES_ON);
    onlyBehind("INC ( a [ 1 ]", ", )");
    onlyBehind("WRITESTRING ( \"ab\"", ", )");
    onlyBehind("NEWPROCESS ( n", ", )");
    onlyBehind("n ( )", "; END");
  }
}
