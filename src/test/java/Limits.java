import java.util.ArrayList;
import java.util.List;

/** The edges that the document names, each from both sides, with the model beside the class. */
public final class Limits {
  private static int wrong = 0;

  private static void due(String what, long got, long want) {
    if (got != want) {
      wrong++;
      System.out.println(what + ": " + got + ", due is " + want);
    }
  }

  /** Compiles a source; its fault and place must be these. */
  private static Both source(String what, String text, int fault, int place) {
    Both both = new Both();
    compile(both, what, text, fault, place);
    return both;
  }

  private static void compile(Both both, String what, String text, int fault, int place) {
    both.bring(text);
    both.compile();
    due(what + ", fault", both.real.fault(0), fault);
    due(what + ", place", both.real.fault(1), place);
    ask(what, both);
  }

  private static void ask(String what, Both both) {
    if (both.wrong) {
      wrong++;
      System.out.println("so it was at: " + what);
    }
  }

  private static Both load(String what, byte[] bytes, int fault, int place) {
    Both both = new Both();
    both.bring(bytes);
    both.load();
    due(what + ", fault", both.real.fault(0), fault);
    due(what + ", place", both.real.fault(1), place);
    ask(what, both);
    return both;
  }

  // ---- sources

  private static void words() {
    source("eight letters", "var abcdefgh;", 0, -1);
    source("nine letters", "var abcdefghi;", 1, 4);
    source("the greatest number", "return 2147483647;", 0, -1);
    source("a number too great", "return 2147483648;", 1, 7);
    source("zeros in front", "return 00000000000000000000007;", 0, -1);
    source("a number far too great", "return 18446744073709551617;", 1, 7);
    source("no blanks", "var a;a=1;if(a<2){a=a+1;}else{}return a;", 0, -1);
    source("blanks", "\t\n\r return\n1\t;\r", 0, -1);
    source("another blank", "return 1;\u000b", 1, 9);
    source("a dot", "for i = 0 . 1 {}", 1, 10);
    source("three dots", "for i = 0 ... 1 {}", 1, 12);
    source("an exclamation", "if ( 1 ! 2 ) {}", 1, 7);
    source("a great letter", "return A;", 1, 7);
    source("letters and digits", "var a1;", 2, 5);
    source("a key word for a name", "var for;", 2, 4);
    source("the end", "return 1", 2, 8);
    source("the end behind blanks", "return 1  ", 2, 10);
    source("nothing", "", 0, -1);
    source("blanks alone", "  ", 0, -1);
    source("a bad word behind another fault", "x = ?;", 3, 0);
    source("> is no word", "if ( 1 > 2 ) {}", 1, 7);
    source("byte 255", "\u00ff", 1, 0);
    source("= = is two words", "if ( 1 = = 1 ) {}", 2, 7);
    source("< = is two words", "if ( 1 < = 1 ) {}", 2, 9);
  }

  private static void syntax() {
    source("a declaration behind a statement", "var a; a = 1; var b;", 2, 14);
    source("else alone", "else {}", 2, 0);
    source("a brace too much", "if (1<2) {} }", 2, 12);
    source("a block that stays open", "while (1<2) {", 2, 13);
    source("a comparison in parentheses", "if ((1<2)) {}", 2, 6);
    source("no comparison", "if (1) {}", 2, 5);
    source("and at the end", "if (1<2 and) {}", 2, 11);
    source("a bound that is no number", "var n; for i = 0 .. n {}", 2, 20);
    source("two minuses of a bound", "for i = - - 1 .. 0 {}", 2, 10);
    source("a plus before a factor", "return + 1;", 2, 7);
    source("an arr without a number", "var n; arr a[n];", 2, 13);
    source("a number to be put", "1 = 2;", 2, 0);
    source("return without e", "return;", 2, 6);
    source("an empty index", "arr a[1]; return a[];", 2, 19);
  }

  private static void names() {
    source("a name that is not known", "return a;", 3, 7);
    source("a name to be put that is not known", "a = 1;", 3, 0);
    source("two of a name", "var a; arr a[1];", 3, 11);
    source("a loop's name that is known", "var i; for i = 0 .. 1 {}", 3, 11);
    source("a loop in a loop of its name", "for i = 0 .. 1 { for i = 0 .. 1 {} }", 3, 21);
    source("a loop's name behind it", "for i = 0 .. 1 {} return i;", 3, 25);
    source("a loop's name once more", "for i = 0 .. 1 {} for i = 0 .. 1 {}", 0, -1);
    source("an arr without [", "arr a[2]; return a;", 4, 17);
    source("an arr put without [", "arr a[2]; a = 1;", 4, 10);
    source("an arr and a bad word", "arr a[2]; return a?;", 4, 17);
    source("a var with [", "var a; return a[0];", 4, 14);
    source("a loop variable with [", "for i = 0 .. 1 { return i[0]; }", 4, 24);
    source("a loop variable put", "for i = 0 .. 1 { i = 1; }", 4, 17);
    source("a loop variable put with [", "for i = 0 .. 1 { i[0] = 1; }", 4, 17);
    source("a loop variable, then no =", "for i = 0 .. 1 { i + 1; }", 4, 17);
    source("a var, then no =", "var a; a + 1;", 2, 9);
    source("an unknown name with [", "return a[0];", 3, 7);
  }

  private static void numbers() {
    source("an arr of none", "arr a[0];", 5, 6);
    source("an arr of 64", "arr a[64];", 0, -1);
    source("an arr of 65", "arr a[65];", 5, 6);
    source("a bound of 100000", "for i = - 100000 .. 100000 { return i; }", 0, -1);
    source("a low bound too great", "for i = - 100001 .. 0 {}", 5, 10);
    source("a high bound too great", "for i = 0 .. 100001 {}", 5, 13);
    source("hi is lo", "for i = 3 .. 3 { return 1; }", 0, -1);
    source("hi below lo", "for i = 3 .. - 3 {}", 5, 15);
    source("hi below lo, both below 0", "for i = - 3 .. - 4 {}", 5, 17);
    Both both = source("256 cells", "arr a[64]; arr b[64]; arr c[64]; arr d[64];", 0, -1);
    compile(both, "257 cells", "arr a[64]; arr b[64]; arr c[64]; arr d[64]; var e;", 6, 48);
    compile(both, "known, and no cell", "arr a[64]; arr b[64]; arr c[64]; arr d[64]; var a;", 3, 48);
    compile(both, "an arr beyond", "var a; arr b[64]; arr c[64]; arr d[64]; arr e[64];", 6, 46);
    compile(both, "65 beyond", "var a; arr b[64]; arr c[64]; arr d[64]; arr e[65];", 5, 46);
    both.policy(5, 9, 6, 8);
    compile(both, "two cells", "var a; var b; a = 7; b = 8;", 0, -1);
    both.run(100);
    due("the first cell", both.real.peek(6), 7);
    due("the second cell", both.real.peek(7), 8);
    both.policy(5, 9, 6, 8);
    compile(both, "three cells", "var a; var b; var c;", 6, 18);
    both.policy(7, 7, 7, 7);
    compile(both, "no cells at all", "var a;", 6, 4);
    compile(both, "no cells wanted", "return 5;", 0, -1);
  }

  private static void operands() {
    String sixteen = "1" + "+1".repeat(15);
    source("16 operands", "return " + sixteen + ";", 0, -1);
    source("17 operands", "return " + sixteen + "+1;", 7, 39);
    source("16 in both sides", "if (" + "1" + "+1".repeat(7) + "<1" + "+1".repeat(7) + ") {}", 0, -1);
    source("17 in both sides", "if (" + "1" + "+1".repeat(7) + "<1" + "+1".repeat(8) + ") {}", 7, 36);
    source("16 in comparisons", "while (1<1" + " and 1<1".repeat(7) + ") {}", 0, -1);
    source("17 in comparisons", "while (1<1" + " and 1<1".repeat(7) + " and 1<1) {}", 7, 71);
    source("17th is unknown", "return " + sixteen + "+a;", 3, 39);
    source("a statement's own", "if (" + sixteen + "<2) {}", 7, 36);
    source("its block has its own", "if (" + "1" + "+1".repeat(14) + "<2) { return " + sixteen + "; }",
        0, -1);
    source("an index counts", "arr a[3]; a[1+1] = " + "1" + "+1".repeat(13) + ";", 0, -1);
    source("an index counts too much", "arr a[3]; a[1+1] = " + "1" + "+1".repeat(14) + ";", 7, 47);
    source("a direct one does not",
        "arr a[3]; for i = 0 .. 2 { a[i+1] = a[i+1]" + "+1".repeat(15) + "; }", 0, -1);
    source("but its name does",
        "arr a[3]; for i = 0 .. 2 { a[i+1] = a[i+1]" + "+1".repeat(16) + "; }", 7, 73);
    source("parentheses count", "return (((((((((((((((1)))))))))))))));", 0, -1);
    source("too many parentheses", "return ((((((((((((((((1))))))))))))))));", 7, 23);
    source("minuses count and lie deep", "return - - - - 1;", 0, -1);
    source("too deep a minus", "return - - - - - 1;", 7, 17);
    source("register 4", "return 1+(1+(1+(1+1)));", 0, -1);
    source("register 5", "return 1+(1+(1+(1+(1+1))));", 7, 21);
    source("a ( in register 5", "return 1+(1+(1+(1+1*(1))));", 7, 20);
    source("an index in register 3", "arr a[2]; return 1+(1+(1+a[0]));", 0, -1);
    source("an index in register 4", "arr a[2]; return 1+(1+(1+(1+a[0])));", 7, 28);
    source("a direct one in register 4",
        "arr a[2]; for i = 0 .. 2 { return 1+(1+(1+(1+a[i]))); }", 0, -1);
    source("not direct by its bounds, in register 4",
        "arr a[2]; for i = 0 .. 3 { return 1+(1+(1+(1+a[i]))); }", 7, 45);
    source("a var in register 4", "var a; return 1+(1+(1+(1+a)));", 0, -1);
    source("right of a comparison", "if (1 < 1+(1+(1+1))) {}", 0, -1);
    source("right of a comparison, too deep", "if (1 < 1+(1+(1+(1+1)))) {}", 7, 19);
    source("behind an index", "arr a[2]; a[0] = 1+(1+(1+1));", 0, -1);
    source("behind an index, too deep", "arr a[2]; a[0] = 1+(1+(1+(1+1)));", 7, 28);
    source("indices within indices", "arr a[2]; return " + "a[".repeat(15) + "1" + "]".repeat(15) + ";",
        0, -1);
    source("one index too many", "arr a[2]; return " + "a[".repeat(16) + "1" + "]".repeat(16) + ";", 7, 49);
  }

  private static void nests() {
    String loop = "for i = 0 .. 1 { for j = 0 .. 1 { for k = 0 .. 1 { ";
    source("three fors", loop + "} } }", 0, -1);
    source("four fors", loop + "for l = 0 .. 1 {} } } }", 7, 51);
    source("three fors, then one", loop + "} } for l = 0 .. 1 {} }", 0, -1);
    source("20 braces", "if(1<2){".repeat(20) + "}".repeat(20), 0, -1);
    source("21 braces", "if(1<2){".repeat(21) + "}".repeat(21), 7, 167);
    source("while in 20", "if(1<2){".repeat(19) + "while(2<1){}".repeat(2) + "}".repeat(19), 0, -1);
    // A return of a number takes 3, of 1 + 1 takes 5, the end takes 5.
    due("their number", source("998", "return 1;".repeat(331), 0, -1).real.told(0), 998);
    due("1000", source("1000", "return 1;".repeat(330) + "return 1+1;", 0, -1).real.told(0), 1000);
    source("1001", "return 1;".repeat(332), 6, 0);
    source("1001, and another fault", "return 1;".repeat(400) + "x", 3, 3600);
    source("far too many", "for i=0..1{}".repeat(1600), 6, 0);
    source("far too many marks", "if(1<1){}".repeat(2200), 6, 0);
    source("far too many jumps", "arr a[9];" + "a[1]=a[1];".repeat(1900), 6, 0);
  }

  /** Accesses, direct and not, at both ends of what may be. */
  private static void accesses() {
    String[] bounds = {"0 .. 4", "1 .. 4", "0 .. 5", "- 1 .. 4", "2 .. 2", "- 3 .. 1", "4 .. 4",
        "5 .. 5", "0 .. 0"};
    String[] indices = {"i", "i + 1", "i - 1", "i + 3", "i + 0", "i - 0", "1 + i", "(i)", "i + 1 + 0",
        "i * 1", "i + 100004", "i - 2147483647", "i + 2147483647", "- i", "i + v"};
    for (String bound : bounds) {
      for (String index : indices) {
        String text = "var v; arr b[2]; arr a[4]; for i = " + bound + " { a[" + index + "] = i + 7;"
            + " v = v + a[" + index + "]; } return v;";
        Both both = new Both();
        both.bring(text);
        both.compile();
        both.run(2000);
        both.watch(2000);
        ask(text, both);
      }
    }
  }

  /** As much as there may be, of what takes the longest derivations. */
  private static void dense() {
    String three = "arr a[9]; var v; for i = 0 .. 9 { for j = 1 .. 5 { for k = - 2 .. 3 { ";
    Both both = source("direct ones", three + "a[i]=a[k+2];".repeat(315) + "} } }", 0, -1);
    both.run(20000);
    ask("direct ones, run", both);
    source("direct comparisons", three
        + ("if(a[i]<a[j]" + " and a[k+2]<=a[j-1]".repeat(7) + "){}").repeat(27) + "} } }", 0, -1);
    source("deep indices", three
        + ("if(" + "a[".repeat(14) + "v" + "]".repeat(14) + "<v){}").repeat(8) + "} } }", 0, -1);
    source("deep direct indices", three
        + ("a[v]=" + "a[".repeat(13) + "a[i]" + "]".repeat(13) + "+a[j];").repeat(9) + "} } }", 0, -1);
    source("empty ifs", three + "if(1<2){}".repeat(130) + "} } }", 0, -1);
    source("empty fors", "for i=0..9{for j=0..9{" + "for k=0..9{}".repeat(120) + "} }", 0, -1);
    source("one for behind the other", "for i=0..9{}".repeat(124), 0, -1);
    source("empty whiles", three + "while(1<2){}".repeat(150) + "} } }", 0, -1);
    source("long terms", three + ("a[1" + "*1".repeat(14) + "]=1;").repeat(24) + "} } }", 0, -1);
    source("products in comparisons", three
        + ("if(i*j*k*i*j*k*i*j<i*j*k*i*j*k*i*j){}").repeat(25) + "} } }", 0, -1);
  }

  /** An object is used again and again. */
  private static void again() {
    Both both = new Both();
    for (int i = 0; i < 100; i++) {
      compile(both, "again " + i, "arr a[3]; for i = 0 .. 3 { for j = 1 .. 3 { a[i] = a[j]; } }"
          + " for i = 0 .. 2 { a[i] = i; }", 0, -1);
      both.bring(Forge.bytes(80, 0, 2, 0, 1, Forge.ins(15, 0, 0, 0), HALT, 16, 32, Forge.any(8), 34, 32));
      due("a load", both.load(), 0);
      both.bring(Forge.bytes(80, 0, 2, 0, 1, Forge.ins(15, 0, 0, 0), HALT, 16, 32, Forge.any(8), 34, 36));
      due("a fault", both.load(), -1);
    }
    ask("again", both);
  }

  // ---- packages

  private static final byte[] HALT = Forge.ins(13, 0, 0, 0);

  private static byte[] claimPackage(byte[] claim, byte[] rest) {
    return Forge.bytes(80, 0, 2, 0, 1, Forge.ins(15, 0, 0, 0), HALT, claim, rest);
  }

  private static byte[] repeat(int value, int many) {
    byte[] b = new byte[many];
    java.util.Arrays.fill(b, (byte) value);
    return b;
  }

  private static void depths() {
    byte[] end = Forge.bytes(32, Forge.any(8), 34, 32);
    // ALLs within one another, and TRUE in them: the claim begins at byte 19.
    byte[] shown = Forge.bytes(Forge.any(39), 32, Forge.any(8), 34, 32);
    load("40 tags", claimPackage(Forge.bytes(repeat(19, 39), 16), shown), 0, -1);
    load("41 tags", claimPackage(Forge.bytes(repeat(19, 40), 16), shown), 5, 59);
    load("41 tags, the last one none", claimPackage(Forge.bytes(repeat(19, 40), 99), shown), 5, 59);
    load("41 tags, cut", claimPackage(repeat(19, 40), new byte[0]), 1, 59);
    load("41 tags with a term", claimPackage(Forge.bytes(repeat(19, 39), 22, 5, 38, 5, 0), shown), 5, 59);
    load("40 tags, another fault", claimPackage(Forge.bytes(repeat(19, 39), 99), shown), 4, 58);
    byte[] term39 = Forge.bytes(repeat(2, 38), 6, 7, repeatTerm(38));
    load("a term of 39 in a relation", claimPackage(Forge.bytes(22, term39, 6, 0), end), 8,
        19 + 1 + term39.length + 2);
    // Derivations within one another: CASES 0 0 p TRUE.
    byte[] zero = Forge.bytes(1, Forge.four(0));
    byte[] open = Forge.bytes(53, zero, zero);
    for (int deep : new int[] {159, 160, 161}) {
      byte[] p = Forge.bytes(repeatBytes(open, deep), 32, repeat(32, deep));
      byte[] all = claimPackage(Forge.bytes(16), Forge.bytes(p, Forge.any(8), 34, 32));
      load("derivations to " + (deep + 1), all, deep < 160 ? 0 : 5, deep < 160 ? -1 : 20 + 160 * 11);
    }
    byte[] open160 = repeatBytes(open, 160);
    load("no tag at 161", claimPackage(Forge.bytes(16), Forge.bytes(open160, 99)), 5, 20 + 160 * 11);
    load("cut at 161", claimPackage(Forge.bytes(16), open160), 1, 20 + 160 * 11);
    // Those that tell count, too.
    byte[] tell = Forge.bytes(34, repeat(65, 160));
    load("telling at 161", claimPackage(Forge.bytes(18, 16, 16), tell), 5, 22 + 160);
    load("a term of 40 in a derivation", claimPackage(Forge.bytes(16),
        Forge.bytes(52, repeat(2, 39), zero, repeatBytes(zero, 39), 36)), 8,
        20 + 1 + 39 + 5 + 39 * 5);
    load("a term of 41 in a derivation", claimPackage(Forge.bytes(16),
        Forge.bytes(52, repeat(2, 40), zero)), 5, 20 + 1 + 40);
    load("a formula of 40 in a PUT", claimPackage(Forge.bytes(16),
        Forge.bytes(38, repeat(19, 39), 16, zero, zero)), 8, 20);
    load("a formula of 41 in a PUT", claimPackage(Forge.bytes(16),
        Forge.bytes(38, repeat(19, 40), 16, zero, zero)), 5, 20 + 41);
  }

  /** Much that is told and still wanted: ALLs of a hypothesis opened at every depth. */
  private static void manyBindings() {
    byte[] claim = Forge.bytes(repeat(19, 38), 18, 16, 16);
    byte[] first = Forge.bytes(Forge.any(38), 34, 32);
    byte[] told = Forge.bytes(67, repeatBytes(Forge.bytes(68, 5, 1), 38), 64, 0);
    byte[] head = claimPackage(claim, first);
    // 9 tags, 112 THENs within one another, 38 FORs and a HYPOTHESIS in the last one: 160.
    int place = head.length + 9 + 112 * told.length + 1 + 3 * 38;
    for (int many : new int[] {1, 50, 111, 112, 113, 150}) {
      byte[] part = Forge.bytes(Forge.any(8), 34, repeatBytes(told, many), 32);
      boolean deep = many > 112;
      load("told " + many + " times", Forge.bytes(head, part), deep ? 5 : 0, deep ? place : -1);
    }
  }

  /** Terms that are long when they are put where variables stand. */
  private static void longTerms() {
    byte[] zero = Forge.bytes(1, Forge.four(0));
    byte[] wide = zero;
    byte[] claim = Forge.bytes(22, zero, zero);
    byte[] formula = Forge.bytes(22, 5, 0, 5, 0);
    for (int i = 0; i < 9; i++) {
      wide = Forge.bytes(2, wide, wide);
      claim = i < 8 ? Forge.bytes(17, claim, claim) : claim;
      formula = i < 8 ? Forge.bytes(17, formula, formula) : formula;
    }
    // The claim is shown for a wide term, this one for itself.
    byte[] shown = Forge.bytes(37);
    for (int i = 0; i < 8; i++) {
      shown = Forge.bytes(33, shown, shown);
    }
    byte[] d = Forge.bytes(38, formula, wide, zero, 36, 38, formula, wide, wide, 37, shown);
    load("wide terms", claimPackage(claim, Forge.bytes(d, Forge.any(8), 34, 32)), 0, -1);
  }

  private static byte[] repeatBytes(byte[] of, int many) {
    byte[] b = new byte[0];
    for (int i = 0; i < many; i++) {
      b = Forge.bytes(b, of);
    }
    return b;
  }

  private static byte[] repeatTerm(int many) {
    return repeatBytes(Forge.bytes(6, 0), many);
  }

  private static void rooms() {
    // A register of 1 + 2 * 99 nodes, then one of two more.
    for (int many : new int[] {99, 100}) {
      byte[] adds = repeatBytes(Forge.ins(5, 1, 1, 1), many);
      byte[] all = Forge.bytes(80, 0, many + 1, 0, 0, adds, HALT, 32);
      load("a register of " + (1 + 2 * many), all, many == 99 ? 0 : 6, many == 99 ? -1 : 0);
    }
    // Behind a HALT no path goes.
    byte[] adds = repeatBytes(Forge.ins(5, 1, 1, 1), 120);
    Both dead = load("a register that never is", Forge.bytes(80, 0, 122, 0, 0, HALT, adds, HALT, 32), 0, -1);
    due("its nodes", dead.real.told(1), 1);
  }

  /** The obligation has 60000 nodes, or one more. */
  private static void exactRoom() {
    // PART 0: claim 0 (s). PART 1: 9 + s, then JEQ 0 0 to the MARK: 9 + s each, then TRUE.
    // With j jumps and a claim of s nodes: s + 9 + s + j * (9 + s) + 1.
    int found = 0;
    for (int j = 1; j < 100; j++) {
      for (int want = 60000; want <= 60001; want++) {
        int rest = want - 10 - 9 * j;
        if (rest % (j + 2) == 0 && rest / (j + 2) < 15000 && rest / (j + 2) > 500) {
          found |= want == 60000 ? 1 : 2;
          exactly(j, rest / (j + 2), want);
        }
      }
    }
    due("both sides of the room were met", found, 3);
  }

  private static void exactly(int jumps, int size, int nodes) {
    List<byte[]> code = new ArrayList<>();
    code.add(Forge.ins(15, 0, 0, 0));
    for (int i = 0; i < jumps; i++) {
      code.add(Forge.ins(11, 0, 0, 0));
    }
    code.add(HALT);
    byte[] opening = Forge.bytes(80, 0, code.size(), 0, 1);
    for (byte[] i : code) {
      opening = Forge.bytes(opening, i);
    }
    Both both = new Both();
    both.bring(Forge.bytes(opening, wide(size), 99));
    both.load();
    due(nodes + " nodes, fault of the derivation", both.real.fault(0), nodes > 60000 ? 6 : 7);
    due(nodes + " nodes", both.real.told(1), nodes > 60000 ? 0 : nodes);
    ask(nodes + " nodes", both);
  }

  /** A claim of so many nodes that is not deep: ANDs of ANDs, an ALL if the number is even. */
  private static byte[] wide(int size) {
    if (size == 1) {
      return new byte[] {16};
    }
    if (size % 2 == 0) {
      return Forge.bytes(19, wide(size - 1));
    }
    int half = (size - 1) / 2;
    int left = half % 2 == 1 ? half : half + 1;
    return Forge.bytes(17, wide(left), wide(size - 1 - left));
  }

  private static void heads() {
    load("nothing", new byte[0], 1, 0);
    load("another first byte", new byte[] {81, 0, 1, 0, 0}, 2, 0);
    load("cut in the instructions' number", new byte[] {80, 0}, 1, 2);
    load("no instructions", new byte[] {80, 0, 0}, 2, 1);
    load("1001 instructions", new byte[] {80, 3, (byte) 233}, 2, 1);
    load("1000 instructions", new byte[] {80, 3, (byte) 232}, 1, 3);
    load("1000 claims", new byte[] {80, 0, 1, 3, (byte) 232}, 1, 5);
    load("1001 claims", new byte[] {80, 0, 1, 3, (byte) 233}, 2, 3);
    load("a great number of claims", new byte[] {80, 0, 1, -1, -1}, 2, 3);
    byte[] code = repeatBytes(HALT, 1000);
    byte[] claims = repeat(16, 1000);
    Both both = load("1000 of both", Forge.bytes(80, 3, 232, 3, 232, code, claims, 32), 0, -1);
    due("1000 instructions held", both.real.told(0), 1000);
  }

  private static void instructions() {
    for (int op = 0; op < 18; op++) {
      for (int a : new int[] {0, 1, 7, 8, 255}) {
        for (int b : new int[] {0, 1, 7, 8, 255}) {
          for (int n : new int[] {0, 1, 7, 8, 99, 100, -1, -2147483648}) {
            Both both = new Both();
            both.bring(Forge.bytes(80, 0, 3, 0, 1, Forge.ins(15, 0, 0, 0), Forge.ins(op, a, b, n), HALT,
                16, 32, Forge.any(8), 34, 32, Forge.any(8), 34, 32));
            both.load();
            both.watch(10);
            ask("op " + op + " " + a + " " + b + " " + n, both);
          }
        }
      }
    }
    load("cut in an instruction", new byte[] {80, 0, 1, 0, 0, 99, 99, 99, 99, 99, 99}, 1, 11);
    load("an op above 15", Forge.bytes(80, 0, 1, 0, 0, Forge.ins(16, 0, 0, 0)), 3, 5);
    load("seen as it comes", Forge.bytes(80, 0, 2, 0, 0, Forge.ins(16, 0, 0, 0)), 3, 5);
    load("cut ahead of the second look", Forge.bytes(80, 0, 2, 0, 0, Forge.ins(8, 0, 0, 0)), 1, 12);
    load("a jump to no MARK", Forge.bytes(80, 0, 2, 0, 0, Forge.ins(8, 0, 0, 1), HALT), 3, 5);
    load("a jump beyond", Forge.bytes(80, 0, 2, 0, 0, Forge.ins(8, 0, 0, 2), HALT), 3, 5);
    load("a jump below", Forge.bytes(80, 0, 2, 0, 0, Forge.ins(9, 0, 0, -1), HALT), 3, 5);
    load("a MARK of no claim", Forge.bytes(80, 0, 2, 0, 1, Forge.ins(15, 0, 0, 1), HALT), 3, 5);
    load("a MARK below", Forge.bytes(80, 0, 2, 0, 1, Forge.ins(15, 0, 0, -1), HALT), 3, 5);
    load("a MARK at the end", Forge.bytes(80, 0, 2, 0, 1, HALT, Forge.ins(15, 0, 0, 0)), 3, 12);
    load("JLT at the end",
        Forge.bytes(80, 0, 2, 0, 1, Forge.ins(15, 0, 0, 0), Forge.ins(9, 0, 0, 0)), 3, 12);
    load("TRAP at the end", Forge.bytes(80, 0, 1, 0, 0, Forge.ins(14, 0, 0, 99), 32), 0, -1);
    load("TRAP 0", Forge.bytes(80, 0, 1, 0, 0, Forge.ins(14, 0, 0, 0), 32), 3, 5);
    load("TRAP 100", Forge.bytes(80, 0, 1, 0, 0, Forge.ins(14, 0, 0, 100), 32), 3, 5);
  }

  private static void claims() {
    byte[] end = Forge.bytes(32, Forge.any(8), 34, 32);
    load("register 8", claimPackage(Forge.bytes(20, 6, 8, 6, 0), end), 4, 20);
    load("register 7", claimPackage(Forge.bytes(20, 6, 7, 6, 0), end), 8, 24);
    load("a free variable", claimPackage(Forge.bytes(20, 6, 7, 5, 0), end), 4, 22);
    load("a variable beyond", claimPackage(Forge.bytes(19, 20, 5, 0, 5, 1), end), 4, 23);
    load("a bound variable", claimPackage(Forge.bytes(19, 20, 5, 0, 5, 0), end), 8, 25);
    load("a term for a formula", claimPackage(Forge.bytes(1, 0, 0, 0, 0), end), 4, 19);
    load("a formula for a term", claimPackage(Forge.bytes(20, 16), end), 4, 20);
    load("a derivation for a formula", claimPackage(Forge.bytes(32), end), 4, 19);
    load("cut in a number", claimPackage(Forge.bytes(20, 1, 0, 0, 0), new byte[0]), 1, 24);
    load("cut in a register", claimPackage(Forge.bytes(20, 6), new byte[0]), 1, 21);
    load("cut in a variable", claimPackage(Forge.bytes(20, 5), new byte[0]), 1, 21);
    load("a register in a derivation", claimPackage(Forge.bytes(16), Forge.bytes(52, 6, 0)), 7, 21);
  }

  private static void binders() {
    byte[] zero = Forge.bytes(1, Forge.four(0));
    // ALL (x = x IF-THEN ALL (x = x)): what is called by how many binders stand between.
    byte[] claim = Forge.bytes(19, 18, 22, 5, 0, 5, 0, 19, 22, 5, 1, 5, 1);
    byte[] open = Forge.bytes(35, 34, 35);
    byte[] end = Forge.bytes(Forge.any(8), 34, 32);
    int at = 19 + claim.length + open.length;
    load("SAME", claimPackage(claim, Forge.bytes(open, 37, end)), 0, -1);
    load("the hypothesis", claimPackage(claim, Forge.bytes(open, 64, 1, end)), 0, -1);
    load("a variable for it", claimPackage(claim, Forge.bytes(open, 64, 0, end)), 7, at);
    load("the outer variable for it", claimPackage(claim, Forge.bytes(open, 64, 2, end)), 7, at);
    load("none", claimPackage(claim, Forge.bytes(open, 64, 3, end)), 7, at);
    load("cut at its number", claimPackage(claim, Forge.bytes(open, 64)), 1, at + 1);
    byte[] never = Forge.bytes(52, 5, 2);
    load("the outer variable", claimPackage(claim, Forge.bytes(open, never, 36)), 8, at + 3);
    load("a hypothesis for a variable", claimPackage(claim, Forge.bytes(open, 52, 5, 1, 36)), 7, at + 1);
    load("no variable", claimPackage(claim, Forge.bytes(open, 52, 5, 3, 36)), 7, at + 1);
    // PUT of a formula within one more binder: the outer variable is one further off.
    byte[] put = Forge.bytes(38, 22, 5, 3, 5, 3, zero, zero, 36, 37);
    load("a PUT without its variable", claimPackage(claim, Forge.bytes(open, put, end)), 0, -1);
    byte[] put2 = Forge.bytes(38, 22, 5, 0, 5, 3, 5, 2, 5, 2, 37, 37);
    load("a PUT with its variable", claimPackage(claim, Forge.bytes(open, put2, end)), 0, -1);
    byte[] put3 = Forge.bytes(38, 22, 5, 0, 5, 3, 5, 2, zero, 37, 37);
    load("a PUT of another term", claimPackage(claim, Forge.bytes(open, put3, end)), 8, at);
    byte[] put4 = Forge.bytes(38, 22, 5, 0, 5, 2, 5, 2, 5, 2, 37, 37);
    load("a PUT with a hypothesis", claimPackage(claim, Forge.bytes(open, put4, end)), 7, at + 4);
    byte[] put5 = Forge.bytes(38, 19, 22, 5, 1, 5, 0, zero, zero, 37, 37);
    load("a PUT that shows another", claimPackage(claim, Forge.bytes(open, put5, end)), 8, at);
    // Both of a CASES have a hypothesis of their own.
    byte[] less = Forge.bytes(19, 19, 18, 20, 5, 1, 5, 0, 23, 5, 1, 5, 0);
    byte[] cases = Forge.bytes(35, 35, 34, 53, 5, 2, 5, 1, 50, 64, 0, 50, 64, 1);
    load("CASES", claimPackage(less, Forge.bytes(cases, end)), 0, -1);
    byte[] cases2 = Forge.bytes(35, 35, 34, 53, 5, 2, 5, 1, 50, 64, 0, 50, 64, 0);
    load("CASES, the other hypothesis", claimPackage(less, Forge.bytes(cases2, end)), 8,
        19 + less.length + 12);
  }

  private static void tape() {
    Both both = new Both();
    for (int i = 0; i < 1001; i++) {
      both.feed(i, -i, 0, 1, 2);
    }
    due("the tape is full", both.real.feed(0, 0, 0, 0, 0), -1);
    both.end(19981);
    due("one byte too few", both.real.feed(0, 0, 0, 0, 0), -1);
    both.end(19980);
    both.feed(0, 0, 0, 0, 0);
    both.end(20001);
    both.end(-1);
    both.end(20000);
    ask("the tape", both);
    // A whole tape of blanks is a source, and of letters it is a word too long.
    Both full = source("20000 blanks", " ".repeat(20000), 0, -1);
    compile(full, "20000 letters", "a".repeat(20000), 1, 0);
    compile(full, "20000 digits", "9".repeat(20000), 1, 0);
    compile(full, "20000 parentheses", "return " + "(".repeat(19993), 7, 23);
    compile(full, "20000 minuses", "return " + "-".repeat(19993), 7, 12);
    compile(full, "20000 semicolons", ";".repeat(20000), 2, 0);
  }

  public static void main(String[] args) throws InterruptedException {
    boolean[] done = {false};
    Thread thread = new Thread(null, () -> {
      words();
      syntax();
      names();
      numbers();
      operands();
      nests();
      accesses();
      dense();
      again();
      depths();
      manyBindings();
      longTerms();
      rooms();
      exactRoom();
      heads();
      instructions();
      claims();
      binders();
      tape();
      done[0] = true;
    }, "limits", 1L << 29);
    thread.start();
    thread.join();
    System.out.println(wrong == 0 ? "all answers are as due" : wrong + " answers are not as due");
    if (wrong != 0 || !done[0]) {
      System.exit(1);
    }
  }
}
