import java.util.List;
import java.util.Random;

/** Runs of 512 calls in any order, with arguments at the edges, on the class and on the model. */
public final class RandomCalls {
  private static final int[] EDGES = {Integer.MIN_VALUE, -1, 0, 1, 2, 5, 7, 19, 20, 21, 40, 63, 64, 65, 254,
      255, 256, 257, 19999, 20000, 20001, Integer.MAX_VALUE};
  private static final List<String> SOURCES = List.of("return 7;", "var n; n = n + 1; return n * 3;",
      "arr a[3]; for i = 0 .. 3 { a[i] = a[i] + i; } return a[2];",
          "var n; while (n < 9) { n = n + 1; } return a;", "arr a[2]; return a[2];", "", "return",
          "while (1 < 2) {}", "arr a[64]; a[0] = 3; a[63] = 4;", "return ?;");

  private static int edge(Random random) {
    return EDGES[random.nextInt(EDGES.length)];
  }

  private static byte[] somePackage(Random random) {
    Forge forge = new Forge(random);
    byte[] whole = switch (random.nextInt(5)) {
      case 0 -> Wire.join(Wire.code(0, Wire.li(0, random.nextInt(9)), Wire.HALT), 32);
      case 1 -> Wire.join(Wire.code(0, Wire.ld(0, 1, random.nextInt(300) - 20), Wire.HALT), 33, 33, 36, 36,
          35, 32);
      case 2 -> Wire.join(Wire.code(0, Wire.li(2, 5), Wire.st(2, 1, random.nextInt(300) - 20), Wire.trap(3)),
          33, 33, 36, 36, 32);
      case 3 -> Wire.join(Wire.code(1, Wire.mark(0), Wire.addi(0, 0, 1), Wire.jmp(0)), 16, 32,
          Wire.PART_OF_TRUE);
      default -> {
        Forge.Shown shown = forge.shown(List.of(), 2);
        yield Forge.packed(shown.formula(), shown.derivation());
      }
    };
    if (random.nextInt(4) == 0) {
      whole[random.nextInt(whole.length)] = (byte) random.nextInt(100);
    }
    return whole.length > 400 ? Wire.upTo(whole, 400) : whole;
  }

  /** What is on the tape is taken away first, but for now and then. */
  private static void bring(Both both, Random random, byte[] bytes) {
    if (random.nextInt(20) != 0) {
      both.end(0);
      both.bring(bytes);
    }
  }

  private static void policy(Both both, Random random) {
    int a = random.nextInt(20);
    int b = 200 + random.nextInt(60);
    int c = a + random.nextInt(20) - 1;
    int d = b - random.nextInt(190);
    if (random.nextInt(3) == 0) {
      both.policy(edge(random), edge(random), edge(random), edge(random));
    } else {
      both.policy(a, b, c, d);
    }
  }

  private static void call(Both both, Random random) {
    switch (random.nextInt(12)) {
      case 0 -> both.feed(random.nextInt(), random.nextInt(), random.nextInt(), random.nextInt(),
          random.nextInt());
      case 1 -> both.end(edge(random));
      case 2 -> {
        if (random.nextInt(3) == 0) {
          policy(both, random);
        }
      }
      case 3, 4 -> {
        bring(both, random, somePackage(random));
        both.load();
      }
      case 5, 6 -> {
        bring(both, random, Ledger.text(SOURCES.get(random.nextInt(SOURCES.size()))));
        both.compile();
      }
      case 7 -> both.run(random.nextBoolean() ? edge(random) : random.nextInt(100));
      case 8 -> both.watch(random.nextBoolean() ? edge(random) : random.nextInt(100));
      case 9, 10 -> both.poke(random.nextBoolean() ? edge(random) : random.nextInt(256),
          random.nextInt(5) - 2);
      default -> both.state();
    }
  }

  public static void main(String[] args) {
    int from = args.length > 0 ? Integer.parseInt(args[0]) : 0;
    int to = args.length > 1 ? Integer.parseInt(args[1]) : 1500;
    int calls = 0;
    for (int seed = from; seed < to; seed++) {
      Random random = new Random(seed);
      Both both = new Both();
      while (both.calls.size() < 500) {
        call(both, random);
      }
      calls += both.calls.size();
      if (both.wrong) {
        System.out.println("seed " + seed);
        both.calls.forEach(System.out::println);
        System.exit(1);
      }
    }
    System.out.println(calls + " calls, all answers are as due");
  }
}
