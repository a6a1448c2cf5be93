/** Part 6 of the document, SOURCES: words, grammar and FAULTS, sentence by sentence; ^ is a fault's place. */
public final class Part6Sources {
  private static void faulty(int fault, String... marked) {
    for (String text : marked) {
      Ledger.faulty(fault, text);
    }
  }

  private static void well(String... texts) {
    for (String text : texts) {
      Ledger.well(text);
    }
  }

  private static void blanks() {
    Ledger.sentence("Part 6", "Blanks (9, 10, 13, 32) part words");
    for (int c = 0; c < 256; c++) {
      char blank = (char) c;
      boolean isBlank = c == 9 || c == 10 || c == 13 || c == 32;
      if (isBlank) {
        well("" + blank, "return" + blank + "1" + blank + ";" + blank, blank + "var" + blank + "a;");
        Ledger.runs("return " + blank + blank + "7;", 8, 1, 7, 3);
        faulty(3, "^retur" + blank + "n 1;");
        faulty(2, "return 1" + blank + "^2;", "if (1 <" + blank + "^= 2) {}",
            "var" + blank + "a; if (a ^=" + blank + "= 1) {}");
      } else {
        boolean goesOn = c == '-' || c >= '0' && c <= '9';
        Ledger.due("byte " + c + " is no blank", Ledger.compile(new CodeHarbour(), "return" + blank + "1;"),
            goesOn ? 0 : -1);
      }
    }
    faulty(1, "if (1 ^! = 2) {}", "for i = 0 ^. . 1 {}");
    Ledger.sentence("Part 6", "the empty source");
    Ledger.runs("", 5, 1, 0, 3);
    Ledger.runs("   \t\n\r ", 5, 1, 0, 3);
  }

  private static void words() {
    Ledger.sentence("Part 6", "WORDS: names of 1 to 8 letters a to z; FAULTS: 1 it is too long");
    well("var a;", "var z;", "var abcdefgh;", "var zzzzzzzz; zzzzzzzz = 1;");
    faulty(1, "var ^abcdefghi;", "return ^abcdefghi;", "^abcdefghij = 1;", "var a^A;", "var ^`;",
        "var a^_b;");
    faulty(1, "^" + "a".repeat(300), "var a; a = ^returning;");
    well("var abcdefgh; var abcdefg; var abcdefgi;", "var ab; var ba; var a; var b; var aa; var bb;");
    faulty(3, "var abcdefgh; var ^abcdefgh;");
    Ledger.sentence("Part 6", "WORDS: numbers 0 to 2147483647; FAULTS: 1 it is too great");
    Ledger.runs("return 0;", 8, 1, 0, 3);
    Ledger.runs("return 2147483647;", 8, 1, 2147483647, 3);
    Ledger.runs("return 0000000000000000002147483647;", 8, 1, 2147483647, 3);
    faulty(1, "return ^2147483648;", "return ^4294967296;", "return ^4294967297;", "return ^9999999999;",
        "return ^18446744073709551616;", "return ^18446744073709551617;", "return 1 + ^2147483648;");
    faulty(1, "return ^" + "1".repeat(400) + ";");
    Ledger.sentence("Part 6", "WORDS: var arr if else while for and return: none of them is a name");
    for (String key : new String[] {"var", "arr", "if", "else", "while", "for", "and", "return"}) {
      faulty(2, "var ^" + key + ";", "arr ^" + key + "[1];", "for ^" + key + " = 0 .. 1 {}",
          "return ^" + key + ";", "return 1 + ^" + key + ";");
      well("var x" + key + ";", "var " + key + "x; " + key + "x = 1; return " + key + "x;");
      well("var " + key.substring(1) + "; var " + key.substring(0, key.length() - 1) + ";");
    }
    Ledger.sentence("Part 6", "FAULTS: 1 no word begins here");
    for (int c = 0; c < 256; c++) {
      char first = (char) c;
      boolean isBlank = c == 9 || c == 10 || c == 13 || c == 32;
      boolean isLetter = c >= 'a' && c <= 'z';
      boolean isSign = "()[]{};=<+-*0123456789".indexOf(first) >= 0;
      if (!isBlank && c != '^') {
        faulty(isLetter ? 3 : isSign ? 2 : 1, "^" + first, "  ^" + first + " ", "return 1;^" + first);
      }
    }
    Ledger.source(new CodeHarbour(), " ^", 1, 1);
    faulty(2, "^==", "^!=", "^<=", "^..");
    faulty(1, "for i = 0 ..^. 1 {}", "for i = 0^.1 {}", "if (1 ^! 2) {}", "if (1 ^> 2) {}");
    faulty(2, "if (1 <= ^= 2) {}", "if (1 == ^= 2) {}", "var a; a = ^= 1;", "var a; a ^== 1;");
    well("for i=0..1{}", "if(1!=2){}", "if(1<=2){}", "if(1==2){}", "if(1<2){}");
  }

  /** Every beginning of this source by words; those that may end where they end come in. */
  private static void beginnings() {
    Ledger.sentence("Part 6",
        "FAULTS: 2 a word that can't stand here (the end: place as many bytes as there are)");
    String[] words = ("var v ; arr a [ 5 ] ; v = 1 ; a [ v + 1 ] = ( 2 ) * - v ; if ( v < 2 ) { } if ( v <="
        + " 2 and 3 == v ) { v = 2 ; } else { return a [ 0 ] ; } while ( v != 2 ) { v = v - 1 ; } for i = -"
        + " 1 .. - 0 { a [ i + 1 ] = a [ i ] ; } return 1 ;").split(" ");
    StringBuilder text = new StringBuilder();
    int depth = 0;
    boolean whole = true;
    for (String word : words) {
      ends(text.toString(), whole);
      ends(text + "  ", whole);
      // A .. can stand nowhere but where one is due.
      String wrong = word.equals("..") ? "]" : "..";
      boolean atArr = endsAtArr(text.toString());
      Ledger.source(new CodeHarbour(), text + " " + wrong, atArr ? 4 : 2,
          atArr ? text.length() - 1 : text.length() + 1);
      depth += word.equals("{") ? 1 : word.equals("}") ? -1 : 0;
      text.append(' ').append(word);
      whole = depth == 0 && (word.equals(";") || word.equals("}"));
    }
    Ledger.source(new CodeHarbour(), text.toString(), 0, -1);
  }

  /** A source that ends here has fault 2 at its end, unless it may end so. */
  private static void ends(String text, boolean whole) {
    boolean atArr = endsAtArr(text);
    int place = atArr ? text.trim().length() : text.length();
    Ledger.source(new CodeHarbour(), text, whole ? 0 : atArr ? 4 : 2, whole ? -1 : place);
  }

  /** An arr behind which there is no [ has fault 4, and its place is ahead of the end. */
  private static boolean endsAtArr(String text) {
    String trimmed = text.trim();
    return trimmed.endsWith(" a") && !trimmed.endsWith("arr a");
  }

  private static void grammar() {
    Ledger.sentence("Part 6",
        "source: declarations, then statements. declaration: var name ; | arr name [ number ] ;");
    well("var a; arr b[1]; var c;", "var a; arr b[1]; return 1;", "return 1;");
    faulty(2, "return 1; ^var a;", "var a; a = 1; ^arr b[1];", "var ^1;", "var a^", "var a ^= 1;",
        "var a^[1];", "arr a ^(1);", "arr a[^-1];", "arr a[^];", "arr a[1^;", "arr a[1 ^+ 1];",
        "arr a[1] ^= 1;", "arr ^[1];", "var a; arr b[^a];", "arr a^;", "if (1 < 2) { ^var a; }");
    Ledger.sentence("Part 6", "statement: name = e ; | name [ e ] = e ;");
    faulty(2, "var a; a ^1;", "var a; a = ^;", "var a; a = 1^", "var a; a = 1 ^a;", "var a; ^= 1;",
        "arr a[1]; a[^] = 1;", "arr a[1]; a[0 ^= 1;", "arr a[1]; a[0] ^1;", "arr a[1]; a[0] = ^;",
        "arr a[1]; a[0]^;", "var a; ^;", "^1 = 2;", "var a; a ^== 1;", "var a; ^(a) = 1;", "var a; a ^+ 1;");
    Ledger.sentence("Part 6", "if ( c ) block | if ( c ) block else block | while ( c ) block");
    faulty(2, "if ^1 < 2 {}", "if (^) {}", "if (1 < 2 ^{}", "if (1 < 2) ^return 1;", "if (1 < 2) {^",
        "if (1 < 2) {} else ^;", "^else {}", "if (1 < 2) {} else {} ^else {}", "while ^1 < 2 {}",
        "while (1 < 2) ^return 1;", "while (1 < 2) {} ^else {}", "if (1 < 2) {} else ^if (1 < 2) {}", "^{ }",
        "^}", "if (1 < 2) {} ^}", "while (1 < 2) {} ^;");
    well("if (1 < 2) {}", "if (1 < 2) {} else {}", "while (2 < 1) {}",
        "if (1 < 2) { if (1 < 2) {} else {} } else { return 1; }");
    Ledger.sentence("Part 6", "for name = bound .. bound block; bound: number | - number");
    faulty(2, "for ^1 = 0 .. 1 {}", "for i ^0 .. 1 {}", "for i ^== 0 .. 1 {}", "for i = ^.. 1 {}",
        "for i = 0 ^1 {}", "for i = 0 .. ^{}", "for i = 0 .. 1 ^;", "for i = ^(0) .. 1 {}",
        "for i = 0 ^+ 1 .. 2 {}", "for i = - ^- 1 .. 2 {}", "for i = - ^.. 2 {}", "for i = 0 .. - ^{}",
        "var n; for i = ^n .. 1 {}", "var n; for i = 0 .. ^n {}", "for i = 0 .. 1 ^+ 1 {}",
        "for ^(i = 0 .. 1) {}", "for i = ^+ 1 .. 2 {}");
    well("for i = 0 .. 1 {}", "for i = - 1 .. - 0 {}", "for i = -5 .. -5 {}");
    Ledger.sentence("Part 6", "return e ; block: { statements }");
    faulty(2, "return^;", "return 1^", "return 1 ^2;", "return ^{}", "if (1 < 2) { return 1; ^");
    Ledger.sentence("Part 6", "c: comparisons joined by and; comparison: e < e | e <= e | e == e | e != e");
    well("if (1 < 2 and 2 <= 3 and 3 == 3 and 3 != 4) {}");
    faulty(2, "if (1^) {}", "if (1 ^= 2) {}", "if (^< 2) {}", "if (1 <^) {}", "if (1 < 2 ^< 3) {}",
        "if (1 < 2 and^) {}", "if (1 < 2 ^3 < 4) {}", "if (^and 1 < 2) {}", "if (1 < 2 and ^and 2 < 3) {}",
        "if ((1 ^< 2)) {}", "while ((1 ^== 1) and 1 < 2) {}");
    Ledger.sentence("Part 6",
        "e: t | e + t | e - t. t: f | t * f. f: number | name | name [ e ] | ( e ) | - f");
    well("return 1 + 2 - 3 * 4;", "return (1);", "return - - 1;", "return - (1);", "return 1 - - 1;",
        "return 2 * - 3;");
    faulty(2, "return ^+ 1;", "return ^* 1;", "return 1 + ^;", "return 1 + ^+ 1;", "return 1 * ^* 1;",
        "return (^);", "return (1^;", "return (1 ^< 2);", "return -^;", "return 1 ^(2);", "return 1 ^[0];",
        "return (1) ^(2);", "return 1 - ^* 2;", "return ^[1];", "return 1 ^and 2;", "return 1 ^.. 2;",
        "return ^= 1;");
  }

  private static void names() {
    Ledger.sentence("Part 6", "FAULTS: 3 a name that is not known");
    faulty(3, "^a = 1;", "return ^a;", "^a[0] = 1;", "return ^a[0];", "var a; a = ^b;", "var a; ^b = a;",
        "arr a[1]; a[^b] = 1;", "arr a[1]; return a[1 + ^b];", "if (^a < 1) {}", "while (1 < ^a) {}",
        "return (^a);", "return -^a;", "return 1 * ^a;", "var a; arr b[1]; return a + b[^c];");
    Ledger.sentence("Part 6", "FAULTS: 3 a new one that is");
    faulty(3, "var a; var ^a;", "var a; arr ^a[1];", "arr a[1]; var ^a;", "arr a[1]; arr ^a[1];",
        "var i; for ^i = 0 .. 1 {}", "arr i[1]; for ^i = 0 .. 1 {}", "for i = 0 .. 1 { for ^i = 0 .. 1 {} }",
        "for i = 0 .. 1 { for j = 0 .. 1 { for ^i = 0 .. 1 {} } }");
    Ledger.sentence("Part 6", "A for's name is its LOOP VARIABLE, in its block alone");
    faulty(3, "for i = 0 .. 1 {} return ^i;", "for i = 0 .. 1 {} ^i = 1;", "return ^i; for i = 0 .. 1 {}",
        "for i = 0 .. 1 { for j = 0 .. 1 {} return ^j; }");
    well("for i = 0 .. 1 {} for i = 0 .. 1 { return i; }",
        "for i = 0 .. 1 { for j = 0 .. 1 {} for j = 0 .. 1 {} }",
        "for i = 0 .. 1 { for j = 0 .. 1 { return i + j; } return i; }");
    Ledger.sentence("Part 6", "FAULTS: 4 an arr without [");
    faulty(4, "arr a[1]; return ^a;", "arr a[1]; ^a = 1;", "arr a[1]; return 1 + ^a + 1;",
        "arr a[1]; if (^a < 1) {}", "arr a[1]; return a[^a];", "arr a[1]; return ^a", "arr a[1]; return ^a ?",
        "arr a[1]; return ^a(0);", "arr a[1]; ^a", "arr a[1]; ^a(0) = 1;");
    Ledger.sentence("Part 6", "FAULTS: 4 another name with [");
    faulty(4, "var a; return ^a[0];", "var a; ^a[0] = 1;", "for i = 0 .. 1 { return ^i[0]; }",
        "for i = 0 .. 1 { ^i[0] = 1; }", "var a; return ^a[", "var a; return ^a[?", "var a; ^a[");
    Ledger.sentence("Part 6", "FAULTS: 4 another one than a var to be put, at the name");
    faulty(4, "for i = 0 .. 1 { ^i = 1; }", "arr a[1]; ^a = 1;",
        "for i = 0 .. 1 { for j = 0 .. 1 { ^i = 1; } }", "for i = 0 .. 1 { if (1 < 2) { ^i = i; } }");
    well("var a; a = 1;", "arr a[1]; a[0] = 1;", "for i = 0 .. 1 { return i; }");
  }

  private static void numbers() {
    Ledger.sentence("Part 6", "FAULTS: 5 an arr's number not 1 to 64");
    well("arr a[1];", "arr a[64];", "arr a[0001];");
    faulty(5, "arr a[^0];", "arr a[^65];", "arr a[^2147483647];", "arr a[^256];", "var b; arr a[^0];",
        "arr a[^00];");
    Ledger.sentence("Part 6", "FAULTS: 5 a bound's above 100000");
    well("for i = 100000 .. 100000 {}", "for i = - 100000 .. 100000 {}", "for i = - 100000 .. - 100000 {}",
        "for i = 0 .. 100000 {}");
    faulty(5, "for i = ^100001 .. 100002 {}", "for i = - ^100001 .. 0 {}", "for i = 0 .. ^100001 {}",
        "for i = 0 .. - ^100001 {}", "for i = ^2147483647 .. 0 {}", "for i = - ^2147483647 .. 0 {}");
    Ledger.sentence("Part 6", "FAULTS: 5 hi below lo (at its number)");
    well("for i = 0 .. 0 {}", "for i = 7 .. 7 {}", "for i = - 7 .. - 7 {}", "for i = - 0 .. 0 {}",
        "for i = 0 .. - 0 {}");
    faulty(5, "for i = 1 .. ^0 {}", "for i = 7 .. ^6 {}", "for i = 0 .. - ^1 {}", "for i = - 7 .. - ^8 {}",
        "for i = 100000 .. - ^100000 {}", "for i = 100000 .. ^99999 {}");
  }

  private static void rooms() {
    Ledger.sentence("Part 6", "FAULTS: 6 cells beyond whi - 1 (at a var's name, an arr's number)");
    well("arr a[64]; arr b[64]; arr c[64]; arr d[64];", "arr a[64]; arr b[64]; arr c[64]; arr d[63]; var e;");
    faulty(6, "arr a[64]; arr b[64]; arr c[64]; arr d[64]; var ^e;",
        "arr a[64]; arr b[64]; arr c[64]; arr d[63]; arr e[^2];",
        "arr a[64]; arr b[64]; arr c[64]; arr d[63]; var e; var ^f;",
        "var e; arr a[64]; arr b[64]; arr c[64]; arr d[^64];");
    CodeHarbour x = new CodeHarbour();
    x.policy(4, 20, 10, 14);
    Ledger.source(x, "var a; var b; var c; var d;", 0, -1);
    Ledger.source(x, "var a; var b; var c; var d; var e;", 6, 32);
    Ledger.source(x, "arr a[4];", 0, -1);
    Ledger.source(x, "arr a[5];", 6, 6);
    Ledger.source(x, "arr a[3]; var b;", 0, -1);
    Ledger.source(x, "arr a[3]; arr b[2];", 6, 16);
    x.policy(4, 20, 10, 10);
    Ledger.source(x, "", 0, -1);
    Ledger.source(x, "var a;", 6, 4);
    Ledger.source(x, "arr a[1];", 6, 6);
    x.policy(256, 256, 256, 256);
    Ledger.source(x, "var a;", 6, 4);
    x.policy(0, 256, 255, 256);
    Ledger.source(x, "var a;", 0, -1);
    Ledger.source(x, "var a; var b;", 6, 11);
    StringBuilder many = new StringBuilder();
    for (int i = 0; i < 256; i++) {
      many.append("var ").append((char) ('a' + i / 26)).append((char) ('a' + i % 26)).append("x;");
    }
    Ledger.well(many.toString());
    Ledger.faulty(6, many + "var ^z;");
    Ledger.faulty(3, many + "var ^aax;");
    Ledger.sentence("Part 6", "FAULTS: 6 more than 1000 instructions (place 0, when all else is well)");
    // Each takes 3, the end takes 5; return 1+1 takes 5.
    Ledger.due("998", Ledger.well("return 1;".repeat(331)).told(0), 998);
    Ledger.due("1000", Ledger.well("return 1;".repeat(330) + "return 1+1;").told(0), 1000);
    Ledger.source(new CodeHarbour(), "return 1;".repeat(332), 6, 0);
    Ledger.source(new CodeHarbour(), "return 1;".repeat(1100), 6, 0);
    Ledger.source(new CodeHarbour(), "var v;" + "v=1;".repeat(248) + "return 1;", 0, -1);
    Ledger.source(new CodeHarbour(), "var v;" + "v=1;".repeat(249), 6, 0);
    Ledger.source(new CodeHarbour(), "return 1;".repeat(332) + "x", 3, 9 * 332);
    Ledger.source(new CodeHarbour(), "return 1;".repeat(332) + "return", 2, 9 * 332 + 6);
    Ledger.source(new CodeHarbour(), "return 1;".repeat(332) + "?", 1, 9 * 332);
    Ledger.source(new CodeHarbour(), "return 1;".repeat(332) + "return - - - - - 1;", 7, 9 * 332 + 17);
  }

  private static void operands() {
    Ledger.sentence("Part 6",
        "FAULTS: 7 more than 16 OPERANDS in a statement's own expressions (at the 17th)");
    String sixteen = "1" + "+1".repeat(15);
    well("return " + sixteen + ";", "var a; a = " + sixteen + ";",
        "return " + sixteen + ";return " + sixteen + ";");
    faulty(7, "return " + sixteen + "+^1;", "var a; a = " + sixteen + "+^1;",
        "return " + sixteen + "+^1+1+1;", "return " + sixteen + "*^1;", "return " + sixteen + "-^1;");
    Ledger.sentence("Part 6", "FAULTS: 7 OPERANDS: each number, name, ( and - before an f");
    String fifteen = "1" + "+1".repeat(14);
    well("var a; return " + fifteen + "+a;", "return " + "1+".repeat(14) + "(1);",
        "return " + "1+".repeat(14) + "-1;");
    faulty(7, "var a; return " + sixteen + "+^a;", "return " + fifteen + "+(^1);",
        "return " + sixteen + "+^(1);", "return " + fifteen + "+-^1;", "return " + sixteen + "+^-1;",
        "for i = 0 .. 1 { return " + sixteen + "+^i; }");
    well("return " + "(".repeat(15) + "1" + ")".repeat(15) + ";");
    faulty(7, "return " + "(".repeat(16) + "^1" + ")".repeat(16) + ";",
        "return " + "(".repeat(16) + "^(1" + ")".repeat(17) + ";");
    Ledger.sentence("Part 6", "FAULTS: 7 OPERANDS of an access: its name, and what is in its [ ]");
    well("arr a[3]; return " + "1+".repeat(14) + "a[1];", "arr a[3]; a[1] = " + fifteen + ";",
        "arr a[3]; a[1 + 1] = 1" + "+1".repeat(13) + ";");
    faulty(7, "arr a[3]; return " + fifteen + "+a[^1];", "arr a[3]; return " + sixteen + "+^a[1];",
        "arr a[3]; a[1] = " + fifteen + "+^1;", "arr a[3]; a[" + sixteen + "] = ^1;",
        "arr a[3]; a[" + sixteen + "+^1] = 1;");
    Ledger.sentence("Part 6", "FAULTS: 7 OPERANDS: but not what is in the [ ] of a DIRECT access");
    String loop = "arr a[3]; for i = 0 .. 2 { ";
    well(loop + "return " + fifteen + "+a[i+1]; }", loop + "a[i+1] = " + sixteen + "; }",
        loop + "a[i] = a[i]" + "+1".repeat(15) + "; }", loop + "return " + "a[i+1]+".repeat(15) + "a[i]; }");
    faulty(7, loop + "return " + sixteen + "+^a[i+1]; }", loop + "a[i+1] = " + sixteen + "+^1; }",
        loop + "return " + fifteen + "+a[^i+2]; }", loop + "return " + "1+".repeat(14) + "a[i+^2]; }",
        loop + "a[i+2] = 1" + "+1".repeat(13) + "+^1; }");
    well(loop + "a[i+2] = " + "1" + "+1".repeat(13) + "; }");
    Ledger.sentence("Part 6",
        "FAULTS: 7 a statement's own expressions: conditions, and not those of its block");
    String eight = "1" + "+1".repeat(7);
    well("if (" + eight + "<" + eight + ") { return " + sixteen + "; } else { return " + sixteen + "; }",
        "while (" + eight + "<" + eight + ") { return " + sixteen + "; }",
        "if (1<1" + " and 1<1".repeat(7) + ") {}");
    faulty(7, "if (" + eight + "<" + eight + "+^1) {}", "while (" + eight + "<" + eight + "+^1) {}",
        "if (" + fifteen + "<1+^1) {}", "if (" + sixteen + "<^1) {}",
        "if (1<1" + " and 1<1".repeat(7) + " and ^1<1) {}", "while (1<1" + " and 1<1".repeat(7)
        + " and ^1<1) {}", "if (1 < 2) { return " + sixteen + "+^1; }");
    well("for i = - 1 .. 2 { return " + sixteen + "; }");
  }

  private static void registers() {
    Ledger.sentence("Part 6", "FAULTS: 7 an operand beyond register 4: an operand whose k is above 4");
    well("return 1+(1+(1+(1+1)));", "return 1+(1+(1+(1+(1))));", "return - - - - 1;",
        "var a; return 1+(1+(1+(1+a)));", "for i = 0 .. 1 { return 1+(1+(1+(1+i))); }",
        "return 1-(1*(1-(1*(1))));");
    faulty(7, "return 1+(1+(1+(1+(1+^1))));", "return 1+(1+(1+(1+1*^1)));", "return 1+(1+(1+(1+1*^(1))));",
        "return - - - - - ^1;", "return - - - - - ^- 1;", "return - - - - - ^(1);",
        "return 1+(1+(1+(1+-^1)));", "var a; return - - - - - ^a;", "for i = 0 .. 1 { return - - - - - ^i; }",
        "arr a[3]; for i = 0 .. 3 { return - - - - - ^a[i]; }");
    well("if (1+(1+(1+(1+1))) < 1+(1+(1+1))) {}", "while (1 < - - - 1) {}");
    faulty(7, "if (1 < 1+(1+(1+(1+^1)))) {}", "while (1 < - - - - ^1) {}",
        "if (1+(1+(1+(1+(1+^1)))) < 1) {}");
    well("arr a[2]; a[0] = 1+(1+(1+1));", "var a; a = 1+(1+(1+(1+1)));", "arr a[2]; a[1+(1+(1+(1+1)))] = 1;");
    faulty(7, "arr a[2]; a[0] = 1+(1+(1+(1+^1)));", "var a; a = 1+(1+(1+(1+(1+^1))));",
        "arr a[2]; a[1+(1+(1+(1+(1+^1))))] = 1;");
    well("arr a[2]; for i = 0 .. 2 { a[i] = 1+(1+(1+(1+1))); }");
    Ledger.sentence("Part 6", "FAULTS: 7 a name with [ that is not DIRECT whose k is 4 (at the name)");
    well("arr a[2]; return 1+(1+(1+a[0]));", "arr a[2]; return - - - a[1];",
        "arr a[2]; return a[1+(1+(1+a[0]))];", "arr a[2]; for i = 0 .. 2 { return 1+(1+(1+(1+a[i]))); }",
        "arr a[2]; for i = 0 .. 1 { return - - - - a[i + 1]; }");
    faulty(7, "arr a[2]; return 1+(1+(1+(1+^a[0])));", "arr a[2]; return - - - - ^a[0];",
        "arr a[2]; if (1 < - - - ^a[0]) {}", "arr a[2]; for i = 0 .. 3 { return - - - - ^a[i]; }",
        "arr a[2]; for i = 0 .. 2 { return - - - - ^a[i + 1]; }",
        "arr a[2]; for i = 0 .. 2 { return - - - - ^a[i - 1]; }",
        "arr a[2]; for i = 0 .. 2 { return - - - - ^a[(i)]; }", "arr a[2]; a[0] = 1+(1+(1+^a[0]));",
        "arr a[2]; return a[1+(1+(1+(1+^a[0])))];");
  }

  private static void nests() {
    Ledger.sentence("Part 6", "FAULTS: 7 a for within three");
    String three = "for i = 0 .. 1 { for j = 0 .. 1 { for k = 0 .. 1 { ";
    well(three + "return i + j + k; } } }", three
        + "} for l = 0 .. 1 {} } for l = 0 .. 1 { for m = 0 .. 1 {} } }");
    faulty(7, three + "^for l = 0 .. 1 {} } } }", three + "if (1 < 2) { ^for l = 0 .. 1 {} } } } }",
        three + "^for", three + "^for i");
    well("for i = 0 .. 1 {} for j = 0 .. 1 {} for k = 0 .. 1 {} for l = 0 .. 1 {}");
    Ledger.sentence("Part 6", "FAULTS: 7 a { within 20");
    for (String open : new String[] {"if (1 < 2) {", "while (1 < 2) {", "if (1 < 2) {} else {"}) {
      well(open.repeat(20) + "}".repeat(20));
      faulty(7, open.repeat(20) + open.replaceFirst("\\{", "^{") + "}".repeat(21));
    }
    well("if (1 < 2) {".repeat(17) + three + "} } }" + "}".repeat(17),
        "if (1 < 2) {".repeat(19) + "while (1 < 2) {}while (1 < 2) {}" + "}".repeat(19));
    faulty(7, "if (1 < 2) {".repeat(20) + "for i = 0 .. 1 ^{ }");
    well("if (1 < 2) {}".repeat(21));
  }

  private static void order() {
    Ledger.sentence("Part 6", "FAULTS, told by the word at which they are seen, in the order of the text");
    faulty(3, "return ^a + ?;", "^a = b;", "return ^a + b;", "var a; var ^a; arr b[0];");
    faulty(5, "arr b[^0]; var b;", "for i = 1 .. ^0 { return ?; }");
    faulty(2, "return ^; ?");
    faulty(4, "arr a[1]; return ^a + b;", "var a; return ^a[b];");
    faulty(7, "return - - - - - ^1 + a;");
    faulty(1, "return ^? + a;");
    Ledger.sentence("Part 6", "FAULTS: of several at one word the least");
    String sixteen = "1" + "+1".repeat(15);
    String four = "arr a[64]; arr b[64]; arr c[64]; arr d[64]; ";
    // 1 and 2: a word that is none can stand nowhere.
    faulty(1, "var ^?;", "var a; a ^? 1;", "return 1 ^2147483648;", "^abcdefghi");
    // 2 and 3: where no name can stand, it does not matter whether it is known.
    faulty(2, "return 1 ^b;", "var a ^a;", "if (1 < 2) ^b", "for i = 0 .. ^b {}");
    // 3 and 6, 3 and 7, 4 and 7, 5 and 6.
    faulty(3, four + "var ^a;", "return " + sixteen + "+^a;", "return - - - - - ^a;",
        "return - - - - ^a[0];");
    faulty(4, "arr a[1]; return " + sixteen + "+^a;", "arr a[1]; return - - - - - ^a;",
        "var a; return - - - - ^a[0];", "var a; return " + sixteen + "+^a[0];");
    faulty(5, four + "arr e[^0];", four + "arr e[^65];");
    // A for within three that has another fault further on is seen at its own word.
    faulty(7, "for i = 0 .. 1 { for j = 0 .. 1 { for k = 0 .. 1 { ^for i = 0 .. 1 {} } } }");
    // 5 twice: a bound above 100000 that is below lo, too.
    faulty(5, "for i = 0 .. - ^100001 {}");
  }

  public static void main(String[] args) {
    blanks();
    words();
    beginnings();
    grammar();
    names();
    numbers();
    rooms();
    operands();
    registers();
    nests();
    order();
    Ledger.close();
  }
}
