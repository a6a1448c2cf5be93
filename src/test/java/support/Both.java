import java.nio.charset.StandardCharsets;
import java.util.ArrayList;
import java.util.List;

/** One object of the class and one of the model, which must answer every call alike. */
final class Both {
  final CodeHarbour real = new CodeHarbour();
  final Model model = new Model();
  final List<String> calls = new ArrayList<>();
  boolean wrong = false;

  private long check(String call, long got, long want) {
    calls.add(call + " -> " + got);
    if (got != want && !wrong) {
      wrong = true;
      System.out.println("after " + calls.size() + " calls: " + call + " answered " + got
          + ", the model says " + want);
    }
    return got;
  }

  void feed(int a, int b, int c, int d, int e) {
    check("feed(" + a + ", " + b + ", " + c + ", " + d + ", " + e + ")", real.feed(a, b, c, d, e),
        model.feed(a, b, c, d, e));
  }

  /** Brings bytes to the tape, which must be empty. */
  void bring(byte[] bytes) {
    for (int at = 0; at < bytes.length; at += 20) {
      int[] five = new int[5];
      for (int i = 0; i < 20 && at + i < bytes.length; i++) {
        five[i / 4] |= (bytes[at + i] & 255) << 24 - i % 4 * 8;
      }
      feed(five[0], five[1], five[2], five[3], five[4]);
    }
    end(bytes.length);
  }

  void bring(String text) {
    bring(text.getBytes(StandardCharsets.ISO_8859_1));
  }

  int end(int n) {
    return (int) check("end(" + n + ")", real.end(n), model.end(n));
  }

  int policy(int a, int b, int c, int d) {
    return (int) check("policy(" + a + ", " + b + ", " + c + ", " + d + ")",
        real.policy(a, b, c, d), model.policy(a, b, c, d));
  }

  int load() {
    int answer = (int) check("load()", real.load(), model.load());
    state();
    return answer;
  }

  int compile() {
    int answer = (int) check("compile()", real.compile(), model.compile());
    state();
    return answer;
  }

  int fault() {
    return (int) check("fault(0)", real.fault(0), model.fault(0));
  }

  int run(int fuel) {
    int answer = (int) check("run(" + fuel + ")", real.run(fuel), model.run(fuel));
    state();
    return answer;
  }

  int watch(int fuel) {
    int answer = (int) check("watch(" + fuel + ")", real.watch(fuel), model.watch(fuel));
    state();
    return answer;
  }

  void poke(int cell, int v) {
    check("poke(" + cell + ", " + v + ")", real.poke(cell, v), model.poke(cell, v));
  }

  /** All that can be asked. */
  void state() {
    for (int i = -1; i < 3; i++) {
      check("fault(" + i + ")", real.fault(i), model.fault(i));
    }
    for (int i = -1; i < 9; i++) {
      check("told(" + i + ")", real.told(i), model.told(i));
    }
    check("result()", real.result(), model.result);
    check("steps()", real.steps(), model.steps);
    check("strays()", real.strays(), 0);
    check("digest()", real.digest(), model.digest());
  }
}
