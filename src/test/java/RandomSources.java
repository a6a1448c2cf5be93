import java.util.ArrayList;
import java.util.List;
import java.util.Random;

/** Sources made at random, whole and broken, on the class and on the model. */
public final class RandomSources {
  private static Random random;
  private static List<String> vars;
  private static List<String> arrs;
  private static List<String> loops;

  private static boolean oneIn(int n) {
    return random.nextInt(n) == 0;
  }

  private static String pick(List<String> of) {
    return of.isEmpty() ? "zz" : of.get(random.nextInt(of.size()));
  }

  private static String number() {
    int[] usual = {0, 1, 2, 3, 4, 5, 7, 8, 10, 64, 100, 1000, 2147483647};
    return Integer.toString(oneIn(4) ? random.nextInt(70) : usual[random.nextInt(usual.length)]);
  }

  private static String index() {
    if (!loops.isEmpty() && !oneIn(4)) {
      String loop = pick(loops);
      return switch (random.nextInt(4)) {
        case 0 -> loop + " + " + random.nextInt(4);
        case 1 -> loop + " - " + random.nextInt(4);
        default -> loop;
      };
    }
    return oneIn(2) ? Integer.toString(random.nextInt(10)) : sum(1);
  }

  private static String factor(int depth) {
    int choice = random.nextInt(depth > 0 ? 10 : 6);
    if (choice < 2) {
      return number();
    }
    if (choice < 4) {
      return !loops.isEmpty() && oneIn(2) ? pick(loops) : pick(vars);
    }
    if (choice < 6) {
      return arrs.isEmpty() ? number() : pick(arrs) + " [ " + index() + " ]";
    }
    if (choice < 8) {
      return "( " + sum(depth - 1) + " )";
    }
    return "- " + factor(depth - 1);
  }

  private static String product(int depth) {
    StringBuilder s = new StringBuilder(factor(depth));
    while (oneIn(4)) {
      s.append(" * ").append(factor(depth));
    }
    return s.toString();
  }

  private static String sum(int depth) {
    StringBuilder s = new StringBuilder(product(depth));
    while (oneIn(3)) {
      s.append(oneIn(2) ? " + " : " - ").append(product(depth));
    }
    return s.toString();
  }

  private static String conditions() {
    String[] signs = {" < ", " <= ", " == ", " != "};
    StringBuilder s = new StringBuilder("( ");
    do {
      s.append(s.length() > 2 ? " and " : "").append(sum(1));
      s.append(signs[random.nextInt(4)]).append(sum(1));
    } while (oneIn(3));
    return s.append(" ) ").toString();
  }

  private static String block(int depth) {
    StringBuilder s = new StringBuilder("{ ");
    while (!oneIn(3)) {
      s.append(statement(depth));
    }
    return s.append("} ").toString();
  }

  private static String statement(int depth) {
    int choice = random.nextInt(depth > 0 ? 12 : 7);
    if (choice < 3) {
      return (vars.isEmpty() ? "x" : pick(vars)) + " = " + sum(2) + " ; ";
    }
    if (choice < 6) {
      return pick(arrs) + " [ " + index() + " ] = " + sum(2) + " ; ";
    }
    if (choice == 6) {
      return oneIn(3) ? "return " + sum(2) + " ; " : "";
    }
    if (choice == 7) {
      return "while " + conditions() + block(depth - 1);
    }
    if (choice < 10) {
      return "if " + conditions() + block(depth - 1) + (oneIn(2) ? "else " + block(depth - 1) : "");
    }
    String name = "" + (char) ('i' + loops.size());
    int low = random.nextInt(8) - 2;
    int high = low + random.nextInt(9);
    loops.add(name);
    String s = "for " + name + " = " + (low < 0 ? "- " : "") + Math.abs(low) + " .. "
        + (high < 0 ? "- " : "") + Math.abs(high) + " " + block(depth - 1);
    loops.remove(loops.size() - 1);
    return s;
  }

  private static String source() {
    vars = new ArrayList<>();
    arrs = new ArrayList<>();
    loops = new ArrayList<>();
    StringBuilder s = new StringBuilder();
    int many = oneIn(8) ? 0 : 2 + random.nextInt(5);
    for (int i = 0; i < many; i++) {
      String name = "" + (char) ('a' + i) + (oneIn(5) ? "bcdefgh" : "");
      if (i == 0 || i > 1 && oneIn(2)) {
        vars.add(name);
        s.append("var ").append(name).append(" ; ");
      } else {
        arrs.add(name);
        s.append("arr ").append(name).append(" [ ").append(1 + random.nextInt(10)).append(" ] ; ");
      }
    }
    do {
      s.append(statement(4));
    } while (!oneIn(3));
    return s.toString();
  }

  private static String broken(String text) {
    String[] odd = {"var", "arr", "if", "else", "while", "for", "and", "return", "(", ")", "[",
        "]", "{", "}", ";", "=", "==", "!=", "<", "<=", "+", "-", "*", "..", ".", "!", "a", "b",
        "i", "zz", "abcdefgh", "abcdefghi", "0", "65", "100001", "2147483648", "99999999999999999999",
        "A", "\u00e9", "_", "007"};
    List<String> words = new ArrayList<>(List.of(text.trim().split(" +")));
    int many = 1 + random.nextInt(2);
    for (int i = 0; i < many; i++) {
      int at = random.nextInt(words.size());
      switch (random.nextInt(3)) {
        case 0 -> words.set(at, odd[random.nextInt(odd.length)]);
        case 1 -> words.add(at, odd[random.nextInt(odd.length)]);
        default -> {
          if (words.size() > 1) {
            words.remove(at);
          }
        }
      }
    }
    return String.join(" ", words) + " ".repeat(random.nextInt(2));
  }

  /** Takes blanks out, or puts other ones, where words stay apart. */
  private static String spaced(String text) {
    StringBuilder s = new StringBuilder();
    for (int i = 0; i < text.length(); i++) {
      char c = text.charAt(i);
      if (c != ' ' || s.length() == 0 || i + 1 == text.length()) {
        s.append(c);
      } else if (oneIn(3) || isWord(s.charAt(s.length() - 1)) && isWord(text.charAt(i + 1))) {
        s.append("\t\n\r ".charAt(random.nextInt(4)));
      }
    }
    return s.toString();
  }

  private static boolean isWord(char c) {
    return Character.isLetterOrDigit(c);
  }

  private static void play(int seed, int[] seen) {
    random = new Random(seed);
    Both both = new Both();
    for (int i = 0; i < 4; i++) {
      if (oneIn(4)) {
        int low = random.nextInt(20);
        both.policy(low, 256, low + random.nextInt(20), 256 - random.nextInt(240));
      }
      String text = source();
      if (oneIn(2)) {
        text = broken(text);
      }
      if (oneIn(2)) {
        text = spaced(text);
      }
      if (text.length() > 20000) {
        continue;
      }
      both.bring(text);
      both.compile();
      seen[both.fault()]++;
      both.run(random.nextInt(3000));
      both.poke(random.nextInt(300) - 10, random.nextInt());
      both.watch(random.nextInt(3000));
      if (both.wrong) {
        System.out.println("seed " + seed + ": " + text);
        System.exit(1);
      }
    }
  }

  public static void main(String[] args) throws InterruptedException {
    int from = args.length > 0 ? Integer.parseInt(args[0]) : 0;
    int to = args.length > 1 ? Integer.parseInt(args[1]) : 4000;
    int[] seen = new int[8];
    boolean[] done = {false};
    Thread thread = new Thread(null, () -> {
      for (int seed = from; seed < to; seed++) {
        play(seed, seen);
      }
      done[0] = true;
    }, "sources", 1L << 29);
    thread.start();
    thread.join();
    if (!done[0]) {
      System.exit(1);
    }
    System.out.println("faults seen: " + java.util.Arrays.toString(seen));
    for (int i = 0; i < 8; i++) {
      if (seen[i] == 0) {
        System.out.println("no source had fault " + i);
        System.exit(1);
      }
    }
  }
}
