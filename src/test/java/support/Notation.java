import java.util.List;

/**
 * Terms and relations as they are written in the document, such as "x + k <= y + k": letters are
 * variables, of which the last one that is named is the innermost.
 */
final class Notation {
  private static final List<String> RELATIONS = List.of("<", "<=", "=", "!=", "FITS");
  private static final List<String> SUMS = List.of("+", "-");
  private static final List<String> PRODUCTS = List.of("*");
  private final String letters;
  private final String[] words;
  private final int within;
  private int at = 0;

  private Notation(String letters, String text, int within) {
    this.letters = letters;
    this.words = text.replace("(", " ( ").replace(")", " ) ").trim().split(" +");
    this.within = within;
  }

  /** A term; so many binders stand between the innermost letter and it. */
  static byte[] term(String letters, String text, int within) {
    return new Notation(letters, text, within).sum();
  }

  /** A relation, or TRUE. */
  static byte[] formula(String letters, String text) {
    return new Notation(letters, text, 0).relation();
  }

  private boolean is(List<String> some) {
    return at < words.length && some.contains(words[at]);
  }

  private byte[] relation() {
    if (words[0].equals("TRUE")) {
      return Wire.TRUE;
    }
    byte[] left = sum();
    int tag = 20 + RELATIONS.indexOf(words[at++]);
    byte[] right = sum();
    if (at < words.length) {
      throw new IllegalArgumentException(String.join(" ", words));
    }
    return Wire.join(tag, left, right);
  }

  private byte[] sum() {
    byte[] left = product();
    while (is(SUMS)) {
      int tag = 2 + SUMS.indexOf(words[at++]);
      left = Wire.join(tag, left, product());
    }
    return left;
  }

  private byte[] product() {
    byte[] left = single();
    while (is(PRODUCTS)) {
      at++;
      left = Wire.product(left, single());
    }
    return left;
  }

  private byte[] single() {
    String word = words[at++];
    if (word.equals("(")) {
      byte[] inner = sum();
      at++;
      return inner;
    }
    int letter = letters.indexOf(word);
    return letter < 0 ? Wire.num(Integer.parseInt(word))
        : Wire.var(letters.length() - 1 - letter + within);
  }
}
