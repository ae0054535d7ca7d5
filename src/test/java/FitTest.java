/** What fits: promise 3, WRONG 4. */
final class FitTest {
  private static final String TWO = "MODULE A; VAR i: INTEGER; b: BOOLEAN; c: CHAR; a: ARRAY 3 OF INTEGER; q: PROCESS; "
      + "PROCEDURE p(x: INTEGER; VAR y: CHAR); BEGIN END p; PROCEDURE n; BEGIN END n; "
      + "PROCEDURE v(VAR z: ARRAY 3 OF INTEGER); BEGIN END v; PROCEDURE f(x: INTEGER): BOOLEAN; BEGIN RETURN TRUE END f; "
      + "PROCEDURE e(): INTEGER; BEGIN RETURN 1 END e; BEGIN ";

  public static void main(String[] args) {
    operators();
    wanted();
    names();
    calls();
    strings();
    variables();
    standard();
    words();
    Mill.end();
  }

  private static void fits(String statements) {
    new Mill("fits").right(TWO + statements + " END A.");
  }

  private static void unfit(String statements) {
    new Mill("does not fit").wrong(4, TWO + statements + " END A.");
  }

  private static void operators() {
    String[] integers = {"+", "-", "*", "DIV", "MOD"};
    for (String sign : integers) {
      fits("i := i " + sign + " 2");
      unfit("i := i ^" + sign + " TRUE");
      unfit("i := \"a\" ^" + sign + " 1");
      unfit("i := b ^" + sign + " b");
      unfit("i := q ^" + sign + " 1");
    }
    fits("i := -i; i := +i; i := -1 + 2");
    unfit("i := ^-TRUE");
    unfit("i := ^+\"a\"");
    unfit("i := ^-TRUE + 1");
    unfit("i := 1 + (^-c)");
    fits("b := NOT b; b := b AND b; b := b OR b; b := NOT (i = 1) AND NOT b");
    unfit("b := ^NOT 1");
    unfit("b := b AND ^NOT i");
    unfit("b := b ^AND 1");
    unfit("b := 1 ^OR b");
    unfit("b := 1 ^AND 2");
    fits("b := i = 1; b := c = \"a\"; b := b = TRUE; b := b # b; b := i # 1");
    unfit("b := i ^= c");
    unfit("b := b ^# 1");
    unfit("b := q ^= q");
    String[] orders = {"<", "<=", ">", ">="};
    for (String sign : orders) {
      fits("b := i " + sign + " 1; b := c " + sign + " \"a\"");
      unfit("b := b ^" + sign + " b");
      unfit("b := q ^" + sign + " q");
      unfit("b := i ^" + sign + " c");
    }
    unfit("i := 1 + 2 ^* TRUE");
    unfit("i := 1 ^+ (2 = 2)");
    unfit("i := 1 + (TRUE ^+ 1) + FALSE");
  }

  private static void wanted() {
    unfit("i := ^TRUE");
    unfit("i := ^\"a\"");
    unfit("i := ^1 = 1");
    unfit("i := ^(1 = 1)");
    unfit("c := ^1");
    unfit("b := ^q");
    unfit("q := ^1");
    fits("q := q");
    unfit("a[1] := ^c");
    unfit("a[^c] := 1");
    unfit("a[^TRUE] := 1");
    unfit("i := a[^c]");
    unfit("IF ^i THEN END");
    unfit("IF b THEN ELSIF ^1 + 1 THEN END");
    unfit("WHILE ^c DO END");
    unfit("REPEAT UNTIL ^i");
    unfit("FOR i := ^c TO 2 DO END");
    unfit("FOR i := 1 TO ^b DO END");
    unfit("FOR i := 1 TO 2 BY ^TRUE DO END");
    unfit("FOR i := 1 TO 2 BY ^i DO END");
    unfit("FOR i := 1 TO 2 BY ^e() DO END");
    unfit("p(^c, c)");
    unfit("b := f(^b)");
    Mill m = new Mill("CONSTANTS");
    m.wrong(4, "MODULE A; VAR x: INTEGER; CONST c = ^x; END A.");
    m.wrong(4, "MODULE A; VAR x: INTEGER; CONST c = ^1 + x; END A.");
    m.wrong(4, "MODULE A; CONST c = ^LENGTH(1); END A.");
    m.wrong(4, "MODULE A; VAR x: ARRAY ^TRUE OF CHAR; END A.");
    m.wrong(4, "MODULE A; VAR x: ARRAY ^\"a\" OF CHAR; END A.");
    m.wrong(4, "MODULE A; VAR n: INTEGER; x: ARRAY ^n OF CHAR; END A.");
    m.wrong(4, "MODULE A; VAR n: INTEGER; CONST c = ^n DIV 0; END A.");
    m.right("MODULE A; CONST a = \"x\"; b = ORD(a) > 3; c = NOT b OR ODD(5); d = CHR(ABS(-65)); e = d = a; f = (1); "
        + "g = -f; VAR x: ARRAY ORD(b) + f OF CHAR; END A.");
    m.wrong(4, "MODULE A; PROCEDURE f: CHAR; BEGIN RETURN ^1 END f; END A.");
    m.wrong(4, "MODULE A; PROCEDURE f: CHAR; BEGIN RETURN ^1 = 1 END f; END A.");
  }

  private static void names() {
    unfit("^f := 1");
    unfit("^n := 1");
    unfit("^a := 1");
    unfit("^i[1] := 1");
    unfit("^n[1] := 1");
    unfit("^ORD := 1");
    unfit("^i");
    unfit("^i(1)");
    unfit("^a");
    unfit("^f(1)");
    unfit("^ORD(c)");
    unfit("^e");
    unfit("i := ^a");
    unfit("i := ^n");
    unfit("i := ^e");
    unfit("i := ^n()");
    unfit("i := ^i(1)");
    unfit("i := ^i[1]");
    unfit("i := ^f[1]");
    unfit("i := ^ORD");
    unfit("i := ^HALT");
    unfit("i := ^HALT()");
    unfit("i := ^a(1)");
    unfit("i := 1 + ^i(1)");
    unfit("i := 1 + ^n()");
    unfit("i := 1 + ^n");
    unfit("i := 1 + ^a");
    unfit("i := 1 + ^i[1]");
    unfit("b := NOT ^e");
    fits("i := e(); n(); n; b := f(e())");
    Mill m = new Mill("CONSTS and imported ones");
    m.right("DEFINITION MODULE D; CONST k = 1; VAR x: INTEGER; y: ARRAY 2 OF INTEGER; PROCEDURE f: INTEGER; END D.");
    m.wrong(4, "MODULE A; FROM D IMPORT k; BEGIN ^k := 1 END A.");
    m.wrong(4, "MODULE A; FROM D IMPORT k; VAR i: INTEGER; BEGIN i := ^k[0] END A.");
    m.wrong(4, "MODULE A; FROM D IMPORT k; BEGIN ^k END A.");
    m.wrong(4, "MODULE A; FROM D IMPORT k; BEGIN INC(^k) END A.");
    m.wrong(4, "MODULE A; FROM D IMPORT f; BEGIN ^f() END A.");
    m.wrong(4, "MODULE A; FROM D IMPORT x; BEGIN FOR ^x := 1 TO 2 DO END END A.");
    m.right("MODULE A; FROM D IMPORT x, y, k, f; BEGIN x := k; y[1] := f(); INC(x); INC(y[k]) END A.");
    m.right("IMPLEMENTATION MODULE D; PROCEDURE f: INTEGER; BEGIN FOR x := 1 TO 2 DO END; RETURN 1 END f; "
        + "BEGIN FOR x := 1 TO 2 DO END END D.");
    m.right("MODULE A; VAR x: INTEGER; PROCEDURE p(y: INTEGER); VAR z: INTEGER; BEGIN FOR x := 1 TO 2 DO END; "
        + "FOR y := 1 TO 2 DO END; FOR z := 1 TO 2 DO END END p; END A.");
    m.wrong(4, "MODULE A; PROCEDURE p(VAR y: INTEGER); BEGIN FOR ^y := 1 TO 2 DO END END p; END A.");
    m.wrong(4, "MODULE A; VAR c: CHAR; BEGIN FOR ^c := 1 TO 2 DO END END A.");
    m.wrong(4, "MODULE A; VAR c: ARRAY 2 OF INTEGER; BEGIN FOR ^c := 1 TO 2 DO END END A.");
    m.wrong(1, "MODULE A; VAR c: INTEGER; BEGIN FOR c^[1] := 1 TO 2 DO END END A.");
    m.wrong(4, "MODULE A; CONST c = 1; BEGIN FOR ^c := 1 TO 2 DO END END A.");
  }

  private static void calls() {
    fits("p(1, c)");
    unfit("^p");
    unfit("^p()");
    unfit("^p(1)");
    unfit("^p(1, c, 2)");
    unfit("^p(1, c, x)");
    unfit("^n(1)");
    unfit("^n(x)");
    unfit("b := ^f()");
    unfit("b := ^f(1, 2)");
    unfit("i := ^e(1)");
    unfit("b := f(^f(1))");
    new Mill("the place of a call").wrong(1, TWO + "p(1 ^; END A.");
    new Mill("an ARGUMENT that does not begin").wrong(1, TWO + "p(1, c, ^) END A.");
    new Mill("less, but no )").wrong(1, TWO + "p(1 ^END A.");
  }

  private static void strings() {
    unfit("c := ^\"ab\"");
    unfit("c := ^\"\"");
    unfit("b := c = ^\"ab\"");
    unfit("WRITECHAR(^\"ab\")");
    unfit("p(ORD(^\"\"), c)");
    unfit("WRITESTRING(^c)");
    unfit("WRITESTRING(^1)");
    unfit("WRITESTRING(^(\"a\"))");
    unfit("WRITESTRING(^x)");
    unfit("^WRITESTRING");
    unfit("^WRITESTRING()");
    unfit("^WRITESTRING(\"a\", \"b\")");
    unfit("OPENFILE(^i, i)");
    unfit("NEWFILE(^c, i)");
    unfit("DELETEFILE(^TRUE)");
    fits("WRITESTRING(\"a\"); WRITESTRING(\"\"); WRITESTRING(\"ab\"); OPENFILE(\"\", i); NEWFILE(\"a\", a[1])");
    new Mill("CONST of several bytes").wrong(4, "MODULE A; CONST c = ^\"ab\"; END A.");
  }

  private static void variables() {
    fits("p(1, c); v(a)");
    unfit("p(1, ^\"a\")");
    unfit("p(1, ^(c))");
    unfit("p(1, ^-i)");
    unfit("p(1, ^i)");
    unfit("p(1, ^a[1])");
    unfit("p(1, ^a)");
    unfit("p(1, ^n)");
    unfit("p(1, ^f(1))");
    unfit("p(1, ^c[1])");
    unfit("v(^a[1])");
    unfit("v(^i)");
    unfit("v(^1)");
    Mill m = new Mill("ARRAYS by number and SIMPLE");
    String head = "MODULE A; VAR a: ARRAY 3 OF CHAR; b: ARRAY 4 OF CHAR; c: ARRAY 3 OF INTEGER; d: ARRAY 1 OF CHAR; e: CHAR; "
        + "PROCEDURE p(VAR x: ARRAY 1 + 2 OF CHAR); BEGIN END p; PROCEDURE q(VAR x: CHAR); BEGIN END q; ";
    m.right(head + "BEGIN p(a); q(a[1]); q(e); q(d[0]) END A.");
    m.wrong(4, head + "BEGIN p(^b) END A.");
    m.wrong(4, head + "BEGIN p(^c) END A.");
    m.wrong(4, head + "BEGIN q(^d) END A.");
    m.wrong(4, head + "BEGIN q(^c[1]) END A.");
    m.wrong(1, head + "BEGIN q(e ^= e) END A.");
    m.wrong(4, head + "BEGIN q(a[^e]) END A.");
    m.right("MODULE A; PROCEDURE p(VAR x: ARRAY 3 OF CHAR); BEGIN p(x); x[0] := x[1] END p; END A.");
    m.wrong(4, "MODULE A; PROCEDURE p(VAR x: ARRAY 3 OF CHAR); BEGIN ^x := x END p; END A.");
  }

  private static void standard() {
    fits("i := ORD(c) + ORD(b) + ABS(i) + LENGTH(i); c := CHR(i); b := ODD(i)");
    unfit("i := ORD(^i)");
    unfit("i := ORD(^q)");
    unfit("c := CHR(^c)");
    unfit("i := ABS(^b)");
    unfit("b := ODD(^c)");
    unfit("i := LENGTH(^\"a\")");
    unfit("i := ^ORD()");
    unfit("i := ^ABS(1, 2)");
    fits("INC(i); DEC(a[i]); INC(i, 2); DEC(i, -i)");
    unfit("^INC");
    unfit("^INC()");
    unfit("^INC(i, 1, 2)");
    unfit("INC(^c)");
    unfit("INC(^1)");
    unfit("INC(i, ^c)");
    unfit("INC(^a)");
    fits("HALT; HALT(); WRITELN; WRITELN(); WRITEINT(1); WRITECHAR(c); READINT(i)");
    unfit("^HALT(1)");
    unfit("^WRITELN(1)");
    unfit("^WRITEINT");
    unfit("WRITEINT(^c)");
    unfit("WRITECHAR(^1)");
    unfit("READINT(^1)");
    unfit("READINT(^b)");
    fits("READBYTE(i, i); WRITEBYTE(i, 2); SETPOS(1, 2); CLOSEFILE(0); DELETEFILE(\"a\"); NEWFILE(\"ab\", i)");
    unfit("READBYTE(^c, i)");
    unfit("READBYTE(i, ^1)");
    unfit("WRITEBYTE(i, ^c)");
    unfit("^SETPOS(i)");
    unfit("CLOSEFILE(^b)");
    unfit("OPENFILE(\"a\", ^c)");
    processes();
  }

  private static void processes() {
    fits("NEWPROCESS(n, 20, q); TRANSFER(q, q); IOTRANSFER(q, q)");
    unfit("NEWPROCESS(^1, 20, q)");
    unfit("NEWPROCESS(^\"n\", 20, q)");
    unfit("NEWPROCESS(^p, 20, q)");
    unfit("NEWPROCESS(^e, 20, q)");
    unfit("NEWPROCESS(^f, 20, q)");
    unfit("NEWPROCESS(^q, 20, q)");
    unfit("NEWPROCESS(^HALT, 20, q)");
    unfit("NEWPROCESS(^WRITELN, 20, q)");
    unfit("NEWPROCESS(n, ^c, q)");
    unfit("NEWPROCESS(n, 20, ^i)");
    unfit("NEWPROCESS(n, 20, ^20)");
    unfit("^NEWPROCESS(n, 20)");
    unfit("TRANSFER(^i, q)");
    unfit("TRANSFER(q, ^i)");
    unfit("TRANSFER(^1, q)");
    unfit("^TRANSFER(q)");
    unfit("IOTRANSFER(q, ^1)");
    unfit("IOTRANSFER(q, ^i)");
    new Mill("one GROUP").wrong(4, "MODULE A; VAR q: PROCESS; PROCEDURE g(x: CHAR); BEGIN END g; BEGIN NEWPROCESS(^g, 20, q) END A.");
    Mill m = new Mill("IOTRANSFER's second PLACE");
    String head = "MODULE A; VAR g: PROCESS; h: ARRAY 2 OF PROCESS; PROCEDURE p(x: PROCESS; VAR y: PROCESS); "
        + "VAR z: PROCESS; w: ARRAY 2 OF PROCESS; BEGIN ";
    m.right(head + "IOTRANSFER(x, g); IOTRANSFER(y, h[1]); IOTRANSFER(z, g); IOTRANSFER(w[1], g) END p; END A.");
    m.wrong(4, head + "IOTRANSFER(g, ^x) END p; END A.");
    m.wrong(4, head + "IOTRANSFER(g, ^y) END p; END A.");
    m.wrong(4, head + "IOTRANSFER(g, ^z) END p; END A.");
    m.wrong(4, head + "IOTRANSFER(g, ^w[k]) END p; END A.");
    m.right("DEFINITION MODULE D; VAR g: PROCESS; PROCEDURE n; END D.");
    m.right("MODULE A; FROM D IMPORT g, n; VAR h: PROCESS; BEGIN IOTRANSFER(h, g); NEWPROCESS(n, 20, g) END A.");
  }

  private static void words() {
    unfit("^EXIT");
    unfit("WHILE b DO ^EXIT END");
    unfit("LOOP EXIT END; ^EXIT");
    fits("LOOP WHILE b DO IF b THEN EXIT END END END");
    unfit("^RETURN 1");
    unfit("^RETURN x");
    unfit("^RETURN (");
    fits("RETURN");
    Mill m = new Mill("RETURN and EXIT");
    m.wrong(4, "MODULE A; PROCEDURE p; BEGIN ^RETURN 1 END p; END A.");
    m.wrong(4, "MODULE A; PROCEDURE p: CHAR; BEGIN ^RETURN END p; END A.");
    m.wrong(4, "MODULE A; PROCEDURE p: CHAR; BEGIN ^RETURN ; END p; END A.");
    m.wrong(4, "MODULE A; PROCEDURE p: CHAR; BEGIN ^RETURN ] END p; END A.");
    m.right("MODULE A; PROCEDURE p: CHAR; BEGIN RETURN \"a\" END p; PROCEDURE q; BEGIN RETURN END q; END A.");
    m.wrong(4, "MODULE A; PROCEDURE p; BEGIN ^EXIT END p; BEGIN LOOP EXIT END END A.");
    m.wrong(4, "MODULE A; PROCEDURE p; BEGIN LOOP END END p; BEGIN ^EXIT END A.");
  }
}
