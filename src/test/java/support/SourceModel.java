import java.util.ArrayList;
import java.util.HashMap;
import java.util.List;
import java.util.Map;
import java.util.Set;

/**
 * Sources, read a second way: the text is made into a tree as far as its words allow, then all
 * faults of the tree are collected, and the first one by place and number is told.
 */
final class SourceModel {
  private static final Set<String> KEYS =
      Set.of("var", "arr", "if", "else", "while", "for", "and", "return");
  private static final List<String> SIGNS = List.of("==", "!=", "<=", "..", "(", ")", "[", "]",
      "{", "}", ";", "=", "<", "+", "-", "*");

  /** kind: a sign or a key word itself, "name", "number", "end" or "bad". */
  record Word(String kind, String text, int place) {
    long value() {
      return Long.parseLong(text);
    }
  }

  static final class Stop extends RuntimeException {
    Stop() {
      super(null, null, false, false);
    }
  }

  static final class Slot {
    Expr e;
  }

  static final class Expr {
    Word word;
    String kind;
    Slot left = new Slot();
    Slot right = new Slot();
    boolean bracket;
    boolean closed;
  }

  static final class Comparison {
    Slot left = new Slot();
    String sign;
    Slot right = new Slot();
  }

  static final class Block {
    Word brace;
    List<Statement> statements = new ArrayList<>();
  }

  static final class Statement {
    Word word;
    Expr target;
    Slot value = new Slot();
    List<Comparison> conditions = new ArrayList<>();
    Block first;
    Block second;
    Word loopName;
    Word low;
    Word high;
    boolean lowMinus;
    boolean highMinus;
  }

  static final class Declaration {
    Word name;
    boolean arr;
    Word number;
  }

  record Thing(char kind, int home, int length, long low, long high) {
  }

  final List<Word> words = new ArrayList<>();
  final List<Declaration> declarations = new ArrayList<>();
  final Block main = new Block();
  final Map<String, Thing> known = new HashMap<>();
  final List<int[]> code = new ArrayList<>();
  final List<int[]> toTrap = new ArrayList<>();
  final int wlo;
  final int whi;
  int at = 0;
  int number = 0;
  int place = -1;
  int operands = 0;
  int loops = 0;
  int braces = 0;

  SourceModel(byte[] bytes, int wlo, int whi) {
    this.wlo = wlo;
    this.whi = whi;
    StringBuilder text = new StringBuilder();
    for (byte b : bytes) {
      text.append((char) (b & 255));
    }
    split(text.toString());
  }

  /** Null if there is a fault. */
  List<Model.Ins> make() {
    try {
      parse();
    } catch (Stop stop) {
      // The word at which it stopped is kept as a fault.
    }
    declare();
    block(main);
    emit(15, 0, 0, 0);
    emit(0, 0, 0, 0);
    emit(13, 0, 0, 0);
    for (int[] jump : toTrap) {
      jump[3] = code.size();
    }
    emit(15, 0, 0, 0);
    emit(14, 0, 0, 1);
    if (number == 0 && code.size() > 1000) {
      fault(6, 0);
    }
    if (number != 0) {
      return null;
    }
    List<Model.Ins> made = new ArrayList<>();
    for (int[] i : code) {
      made.add(new Model.Ins(i[0], i[1], i[2], i[3]));
    }
    return made;
  }

  void fault(int n, int where) {
    if (number == 0 || where < place || where == place && n < number) {
      number = n;
      place = where;
    }
  }

  // ---- words

  void split(String text) {
    int i = 0;
    while (true) {
      while (i < text.length() && "\t\n\r ".indexOf(text.charAt(i)) >= 0) {
        i++;
      }
      if (i == text.length()) {
        words.add(new Word("end", "", i));
        return;
      }
      String rest = text.substring(i);
      String word = rest.replaceFirst("(?s)^([a-z]+|[0-9]+|).*$", "$1");
      String kind = "bad";
      if (!word.isEmpty() && Character.isDigit(word.charAt(0))) {
        boolean fits = new java.math.BigInteger(word)
            .compareTo(java.math.BigInteger.valueOf(2147483647L)) <= 0;
        kind = fits ? "number" : "bad";
      } else if (!word.isEmpty()) {
        kind = word.length() > 8 ? "bad" : KEYS.contains(word) ? word : "name";
      } else {
        for (String sign : SIGNS) {
          if (word.isEmpty() && rest.startsWith(sign)) {
            word = sign;
            kind = sign;
          }
        }
      }
      words.add(new Word(kind, word, i));
      if (kind.equals("bad")) {
        return;
      }
      i += word.length();
    }
  }

  Word now() {
    return words.get(at);
  }

  boolean is(String kind) {
    return now().kind.equals(kind);
  }

  Word take(String kind) {
    if (!is(kind)) {
      stop();
    }
    return words.get(at++);
  }

  void stop() {
    fault(is("bad") ? 1 : 2, now().place);
    throw new Stop();
  }

  // ---- the tree

  void parse() {
    while (is("var") || is("arr")) {
      Declaration d = new Declaration();
      d.arr = words.get(at++).kind.equals("arr");
      declarations.add(d);
      d.name = take("name");
      if (d.arr) {
        take("[");
        d.number = take("number");
        take("]");
      }
      take(";");
    }
    while (!is("end")) {
      parseStatement(main);
    }
  }

  Block parseBlock(Block b) {
    b.brace = take("{");
    while (!is("}")) {
      parseStatement(b);
    }
    take("}");
    return b;
  }

  void parseStatement(Block in) {
    Statement s = new Statement();
    s.word = now();
    switch (now().kind) {
      case "name" -> {
        in.statements.add(s);
        s.target = new Expr();
        parseName(s.target);
        take("=");
        parseSum(s.value);
        take(";");
      }
      case "return" -> {
        in.statements.add(s);
        at++;
        parseSum(s.value);
        take(";");
      }
      case "if", "while" -> {
        in.statements.add(s);
        at++;
        parseConditions(s);
        s.first = new Block();
        parseBlock(s.first);
        if (s.word.kind.equals("if") && is("else")) {
          at++;
          s.second = new Block();
          parseBlock(s.second);
        }
      }
      case "for" -> {
        in.statements.add(s);
        at++;
        s.loopName = take("name");
        take("=");
        s.lowMinus = is("-");
        at += s.lowMinus ? 1 : 0;
        s.low = take("number");
        take("..");
        s.highMinus = is("-");
        at += s.highMinus ? 1 : 0;
        s.high = take("number");
        s.first = new Block();
        parseBlock(s.first);
      }
      default -> stop();
    }
  }

  void parseConditions(Statement s) {
    take("(");
    while (true) {
      Comparison c = new Comparison();
      s.conditions.add(c);
      parseSum(c.left);
      if (!is("<") && !is("<=") && !is("==") && !is("!=")) {
        stop();
      }
      c.sign = words.get(at++).kind;
      parseSum(c.right);
      if (!is("and")) {
        break;
      }
      at++;
    }
    take(")");
  }

  void parseName(Expr e) {
    e.kind = "name";
    e.word = take("name");
    e.bracket = is("[");
    if (e.bracket) {
      at++;
      parseSum(e.left);
      take("]");
      e.closed = true;
    }
  }

  void operation(Slot slot) {
    Expr e = new Expr();
    e.word = words.get(at++);
    e.kind = e.word.kind;
    e.left.e = slot.e;
    slot.e = e;
  }

  void parseSum(Slot slot) {
    parseProduct(slot);
    while (is("+") || is("-")) {
      operation(slot);
      parseProduct(slot.e.right);
    }
  }

  void parseProduct(Slot slot) {
    parseFactor(slot);
    while (is("*")) {
      operation(slot);
      parseFactor(slot.e.right);
    }
  }

  void parseFactor(Slot slot) {
    Expr e = new Expr();
    e.word = now();
    switch (now().kind) {
      case "number" -> {
        slot.e = e;
        e.kind = "number";
        at++;
      }
      case "name" -> {
        slot.e = e;
        parseName(e);
      }
      case "(" -> {
        slot.e = e;
        e.kind = "(";
        at++;
        parseSum(e.left);
        take(")");
      }
      case "-" -> {
        slot.e = e;
        e.kind = "neg";
        at++;
        parseFactor(e.left);
      }
      default -> stop();
    }
  }

  // ---- faults and code

  int[] emit(int op, int a, int b, int n) {
    int[] i = {op, a, b, n};
    code.add(i);
    return i;
  }

  void declare() {
    int cell = wlo;
    for (Declaration d : declarations) {
      if (d.name == null || d.arr && d.number == null) {
        if (d.name != null && known.containsKey(d.name.text)) {
          fault(3, d.name.place);
        }
        return;
      }
      if (known.containsKey(d.name.text)) {
        fault(3, d.name.place);
      }
      long length = d.arr ? d.number.value() : 1;
      Word at = d.arr ? d.number : d.name;
      if (length < 1 || length > 64) {
        fault(5, at.place);
        return;
      }
      if (cell + length > whi) {
        fault(6, at.place);
      }
      known.put(d.name.text, new Thing(d.arr ? 'a' : 'v', cell, (int) length, 0, 0));
      cell += (int) length;
    }
  }

  void block(Block b) {
    if (b == null) {
      return;
    }
    if (b.brace != null) {
      if (braces >= 20) {
        fault(7, b.brace.place);
      }
      braces++;
    }
    for (Statement s : b.statements) {
      operands = 0;
      statement(s);
    }
    if (b.brace != null) {
      braces--;
    }
  }

  void statement(Statement s) {
    switch (s.word.kind) {
      case "name" -> assignment(s);
      case "return" -> {
        emit(15, 0, 0, 0);
        expr(s.value.e, 0);
        emit(13, 0, 0, 0);
      }
      case "if" -> {
        emit(15, 0, 0, 0);
        List<int[]> others = conditions(s);
        block(s.first);
        int[] over = emit(8, 0, 0, 0);
        others.forEach(j -> j[3] = code.size());
        emit(15, 0, 0, 0);
        block(s.second);
        over[3] = code.size();
        emit(15, 0, 0, 0);
      }
      case "while" -> {
        int again = code.size();
        emit(15, 0, 0, 0);
        List<int[]> out = conditions(s);
        block(s.first);
        emit(8, 0, 0, again);
        out.forEach(j -> j[3] = code.size());
        emit(15, 0, 0, 0);
      }
      default -> loop(s);
    }
  }

  void loop(Statement s) {
    if (loops >= 3) {
      fault(7, s.word.place);
    }
    if (s.loopName == null) {
      return;
    }
    if (known.containsKey(s.loopName.text)) {
      fault(3, s.loopName.place);
    }
    long lo = bound(s.low, s.lowMinus);
    long hi = bound(s.high, s.highMinus);
    if (s.high == null) {
      return;
    }
    if (hi < lo) {
      fault(5, s.high.place);
    }
    int r = 5 + loops;
    emit(15, 0, 0, 0);
    emit(0, r, 0, (int) lo);
    int again = code.size();
    emit(15, 0, 0, 0);
    emit(0, 0, 0, (int) hi);
    int[] out = emit(10, 0, r, 0);
    Thing was = known.put(s.loopName.text, new Thing('l', r, 0, lo, hi));
    loops++;
    block(s.first);
    loops--;
    known.remove(s.loopName.text);
    if (was != null) {
      known.put(s.loopName.text, was);
    }
    emit(5, r, r, 1);
    emit(8, 0, 0, again);
    out[3] = code.size();
    emit(15, 0, 0, 0);
  }

  long bound(Word w, boolean minus) {
    if (w == null) {
      return 0;
    }
    if (w.value() > 100000) {
      fault(5, w.place);
    }
    return minus ? -w.value() : w.value();
  }

  List<int[]> conditions(Statement s) {
    List<int[]> jumps = new ArrayList<>();
    for (Comparison c : s.conditions) {
      expr(c.left.e, 0);
      expr(c.right.e, 1);
      if (c.sign != null) {
        jumps.add(switch (c.sign) {
          case "<" -> emit(10, 1, 0, 0);
          case "<=" -> emit(9, 1, 0, 0);
          case "==" -> emit(12, 0, 1, 0);
          default -> emit(11, 0, 1, 0);
        });
      }
    }
    return jumps;
  }

  /** The loop variable and what is added, or null if the access is not direct. */
  long[] direct(Expr e, Thing arr) {
    Expr i = e.left.e;
    if (!e.closed || i == null) {
      return null;
    }
    long more = 0;
    if (i.kind.equals("+") || i.kind.equals("-")) {
      if (i.right.e == null || !i.right.e.kind.equals("number")) {
        return null;
      }
      more = i.right.e.word.value() * (i.kind.equals("-") ? -1 : 1);
      i = i.left.e;
    }
    if (!i.kind.equals("name") || i.bracket) {
      return null;
    }
    Thing loop = known.get(i.word.text);
    if (loop == null || loop.kind != 'l') {
      return null;
    }
    boolean well = loop.low + more >= 0 && loop.low + more <= arr.length
        && loop.high + more >= 0 && loop.high + more <= arr.length;
    return well ? new long[] {loop.home, more} : null;
  }

  void guarded(Expr e, int k, Thing arr) {
    expr(e.left.e, k);
    emit(0, k + 1, 0, 0);
    toTrap.add(emit(9, k, k + 1, 0));
    emit(0, k + 1, 0, arr.length);
    toTrap.add(emit(10, k + 1, k, 0));
  }

  void assignment(Statement s) {
    Expr t = s.target;
    Thing thing = known.get(t.word.text);
    if (thing == null) {
      fault(3, t.word.place);
      return;
    }
    if (thing.kind != (t.bracket ? 'a' : 'v')) {
      fault(4, t.word.place);
      return;
    }
    emit(15, 0, 0, 0);
    long[] d = t.bracket ? direct(t, thing) : null;
    if (!t.bracket) {
      expr(s.value.e, 0);
      emit(0, 1, 0, 0);
      emit(7, 0, 1, thing.home);
    } else if (d != null) {
      expr(s.value.e, 0);
      emit(7, 0, (int) d[0], (int) (thing.home + d[1]));
    } else {
      guarded(t, 0, thing);
      expr(s.value.e, 1);
      emit(7, 1, 0, thing.home);
    }
  }

  void operand(Word w, int k, int most) {
    operands++;
    if (operands > 16 || k > most) {
      fault(7, w.place);
    }
  }

  void expr(Expr e, int k) {
    if (e == null) {
      return;
    }
    switch (e.kind) {
      case "number" -> {
        operand(e.word, k, 4);
        emit(0, k, 0, (int) e.word.value());
      }
      case "name" -> name(e, k);
      case "(" -> {
        operand(e.word, k, 4);
        expr(e.left.e, k);
      }
      case "neg" -> {
        operand(e.word, k, 4);
        emit(0, k, 0, 0);
        expr(e.left.e, k + 1);
        emit(3, k, k, k + 1);
      }
      default -> {
        expr(e.left.e, k);
        expr(e.right.e, k + 1);
        emit(e.kind.equals("+") ? 2 : e.kind.equals("-") ? 3 : 4, k, k, k + 1);
      }
    }
  }

  void name(Expr e, int k) {
    Thing thing = known.get(e.word.text);
    if (thing == null) {
      fault(3, e.word.place);
      return;
    }
    if (e.bracket != (thing.kind == 'a')) {
      fault(4, e.word.place);
      return;
    }
    long[] d = e.bracket ? direct(e, thing) : null;
    operand(e.word, k, e.bracket && d == null ? 3 : 4);
    if (d != null) {
      emit(6, k, (int) d[0], (int) (thing.home + d[1]));
    } else if (e.bracket) {
      guarded(e, k, thing);
      emit(6, k, k, thing.home);
    } else if (thing.kind == 'l') {
      emit(1, k, thing.home, 0);
    } else {
      emit(0, k, 0, 0);
      emit(6, k, k, thing.home);
    }
  }
}
