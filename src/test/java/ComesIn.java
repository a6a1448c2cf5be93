/**
 * The end of part 6: "The MARKS have claims with which the package comes in", for every source without
 * a FAULT, under every policy: accesses at all edges of their arr, sources as large and as deep as they
 * may be, and fors, whiles and ifs in one another in every order.
 */
public final class ComesIn {
  private static final int END = 5;
  private static final int FOR = 8;
  private static final int MOST_INSTRUCTIONS = 1000;

  private static String bound(int v) {
    return v < 0 ? "- " + -v : Integer.toString(v);
  }

  private static CodeHarbour under(int rlo, int rhi, int wlo, int whi) {
    CodeHarbour x = new CodeHarbour();
    Ledger.due("policy()", x.policy(rlo, rhi, wlo, whi), 0);
    return x;
  }

  /** The index of an access: i alone, or with + or - a number behind it. */
  private static String index(int more, boolean alone) {
    return alone ? "i" : more < 0 ? "i-" + -more : "i+" + more;
  }

  /** What is put and read in a for, with an arr that has the last cells that may be written. */
  private static void access(CodeHarbour x, int wlo, int[] loop, int length, int more, boolean alone) {
    int low = loop[0];
    int high = loop[1];
    String a = "a[" + index(more, alone) + "]";
    String text = "var s;arr a[" + length + "];s=0;for i=" + bound(low) + ".." + bound(high) + "{" + a + "=i+50;s=s*7+"
        + a + ";}return s;";
    boolean direct = low + more >= 0 && high + more <= length;
    int code = alone ? 1 : 3;
    Ledger.source(x, text, 0, -1);
    // s = 0 is 4; MARK, MOV, LI, ADD, ST; MARK, LI, LD, LI, MUL, LD, ADD, LI, ST; return is 4.
    int plain = 4 + FOR + 5 + 9 + 4 + END;
    Ledger.due(text + ": told(0)", x.told(0), direct ? plain : plain + 2 * (code + 4));
    int s = 0;
    boolean trapped = false;
    for (int i = low; i < high && !trapped; i++) {
      trapped = i + more < 0 || i + more >= length;
      s = trapped ? s : s * 7 + i + 50;
    }
    Ledger.due(text + ": run()", x.run(2000), trapped ? 2 : 1);
    Ledger.due(text + ": result()", x.result(), trapped ? 1 : s);
    Ledger.due(text + ": s", x.peek(wlo), s);
    Ledger.due(text + ": watch()", x.watch(2000), trapped ? 2 : 1);
    Ledger.due(text + ": strays()", x.strays(), 0);
  }

  private static void accesses() {
    Ledger.sentence("Part 6", "The MARKS have claims with which the package comes in: accesses at all edges");
    for (int length = 1; length <= 3; length++) {
      for (int low = -3; low <= 4; low++) {
        for (int high = low; high <= 5; high++) {
          for (int wlo : new int[] {0, 9, 255 - length}) {
            CodeHarbour x = under(wlo, wlo + 1 + length, wlo, wlo + 1 + length);
            int[] loop = {low, high};
            access(x, wlo, loop, length, 0, true);
            for (int more = -3; more <= 3; more++) {
              access(x, wlo, loop, length, more, false);
            }
          }
        }
      }
    }
    for (int low : new int[] {99997, -99990, -100000}) {
      CodeHarbour x = under(0, 256, 191, 256);
      for (int high = low; high <= low + 3; high++) {
        for (int more = -2; more <= 2; more++) {
          access(x, 191, new int[] {low, high}, 64, more - low, false);
        }
      }
    }
  }

  /** Three fors, with i, j and k from 0 to 2, 3 and 4, around what is put in as often as it may be. */
  private static void fill(String statement, int each) {
    String head = "var v;arr a[4];for i=0..2{for j=0..3{for k=0..4{";
    int many = (MOST_INSTRUCTIONS - 3 * FOR - END) / each;
    int size = 3 * FOR + END + many * each;
    int[][] policies = {{0, 256, 0, 256}, {0, 256, 251, 256}, {7, 13, 8, 13}};
    for (int[] p : policies) {
      CodeHarbour x = under(p[0], p[1], p[2], p[3]);
      String text = head + statement.repeat(many) + "}}}";
      Ledger.source(x, text, 0, -1);
      Ledger.due(statement + ": told(0)", x.told(0), size);
      int ends = x.run(20000);
      Ledger.due(statement + ": strays()", x.strays(), 0);
      Ledger.due(statement + ": how it ends", ends == 1 || ends == 3 ? 1 : 0, 1);
    }
    Ledger.source(new CodeHarbour(), head + statement.repeat(many + 1) + "}}}", 6, 0);
  }

  private static String nest(int many, String inner) {
    return "a[".repeat(many) + inner + "]".repeat(many);
  }

  private static void large() {
    Ledger.sentence("Part 6", "The MARKS have claims with which the package comes in: as large as may be");
    fill("if(a[i]<a[j]){}", 7);
    fill("if(a[i]!=a[j]){}else{}", 7);
    fill("while(a[i]<a[j]){}", 6);
    fill("a[i]=a[k];", 3);
    fill("a[k]=a[j+1]-a[i+2];", 5);
    fill("v=0;", 4);
    String many = "a[i]<a[j] and a[j]<=a[k] and a[k]==a[i] and a[i+2]!=a[j]";
    fill("if(" + many + " and " + many + "){}", 1 + 8 * 3 + 3);
    // MARK, LD, 15 accesses of five each, LI, ST.
    fill("v=" + nest(15, "a[i]") + ";", 1 + 1 + 75 + 2);
    fill("v=0+(0+" + nest(12, "a[k]") + ");", 1 + 2 + 1 + 60 + 2 + 2);
    // MARK, LD, 14 accesses, LI, JLT, LI, JLE, LI, ST; MARK, LD, 14 accesses, LI, JLE, JMP, MARK, MARK.
    fill("a[" + nest(14, "a[i]") + "]=0;", 1 + 1 + 70 + 4 + 2);
    fill("if(" + nest(14, "a[i]") + "<0){}", 1 + 1 + 70 + 2 + 3);
  }

  // What may stand around statements: f a for, w a while, i an if, e an if with its statements in its else.
  private static String around(char kind, int loops, String inner) {
    return switch (kind) {
      case 'f' -> "for " + (char) ('i' + loops) + "=0..2{" + inner + "}";
      case 'w' -> "while(v<3){v=v+1;" + inner + "}";
      case 'i' -> "if(v<3){" + inner + "}";
      default -> "if(v<3){}else{" + inner + "}";
    };
  }

  /** A statement with a direct access to the innermost for, if there is one: 5 instructions, else 7. */
  private static String statement(int loops) {
    String access = "a[" + (char) ('h' + loops) + "+1]";
    return loops == 0 ? "v=v+1;" : access + "=" + access + "+1;";
  }

  /** Statements ahead of and behind each of these, one in another. */
  private static String nested(String kinds, int at, int loops) {
    if (at == kinds.length()) {
      return statement(loops);
    }
    char kind = kinds.charAt(at);
    String inner = nested(kinds, at + 1, kind == 'f' ? loops + 1 : loops);
    return statement(loops) + around(kind, loops, inner) + statement(loops);
  }

  private static int nestedSize(String kinds) {
    int size = END;
    int loops = 0;
    for (char kind : kinds.toCharArray()) {
      // MARK, LI, LD, LI, JLE, JMP, MARK and v = v + 1; an if has another MARK.
      size += 2 * (loops == 0 ? 7 : 5) + (kind == 'w' ? 7 + 7 : 8);
      loops += kind == 'f' ? 1 : 0;
    }
    return size + (loops == 0 ? 7 : 5);
  }

  private static void nest(String kinds) {
    int wlo = kinds.hashCode() & 127;
    CodeHarbour x = under(wlo, wlo + 4, wlo, wlo + 4);
    Ledger.source(x, "var v;arr a[3];" + nested(kinds, 0, 0), 0, -1);
    Ledger.due(kinds + ": told(0)", x.told(0), nestedSize(kinds));
    Ledger.due(kinds + ": run()", x.run(20000), 1);
    Ledger.due(kinds + ": strays()", x.strays(), 0);
  }

  private static void everyOrder(String kinds, int loops, int more) {
    nest(kinds);
    if (more > 0) {
      for (char kind : "fwie".toCharArray()) {
        if (kind != 'f' || loops < 3) {
          everyOrder(kinds + kind, kind == 'f' ? loops + 1 : loops, more - 1);
        }
      }
    }
  }

  private static void deep() {
    Ledger.sentence("Part 6", "The MARKS have claims with which the package comes in: one in another");
    everyOrder("", 0, 5);
    for (int first = 0; first < 18; first++) {
      for (int second = first + 1; second < 19; second++) {
        for (int third = second + 1; third < 20; third++) {
          StringBuilder kinds = new StringBuilder("iewwieiweiwieeiwiewi");
          kinds.setCharAt(first, 'f');
          kinds.setCharAt(second, 'f');
          kinds.setCharAt(third, 'f');
          nest(kinds.toString());
        }
      }
    }
  }

  public static void main(String[] args) {
    accesses();
    large();
    deep();
    Ledger.close();
  }
}
