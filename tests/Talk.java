/** REQUESTS and ROWS written as texts, so that a test reads like what it is about. */
final class Talk {
  private static final String[] METHODS = {"GET", "HEAD", "PUT", "POST", "DELETE"};
  private static final String[] WORDS = {"get", "head", "put", "post", "delete", "/", ",", "=", "-", "*", "lang",
      "coding", "size", "max-age", "max-stale", "min-fresh", "no-cache", "no-store", "only-if-cached", "if-match",
      "if-none-match", "if-modified-since", "if-unmodified-since", "range", "if-range", "s-maxage", "expires", "private",
      "must-revalidate", "stale-while", "stale-if", "now", "tag", "last"};

  private Talk() {
  }

  /** The text as draftText() writes it becomes the DRAFT. */
  static void draft(Cachefront x, String text) {
    String[] parts = text.split(", ");
    String[] head = parts[0].split(" /");
    x.draft(indexOf(METHODS, head[0]), Integer.parseInt(head[1]), number(parts, "lang", 0), number(parts, "coding", 0),
        number(parts, "size", 0));
    x.wish(number(parts, "max-age", -1), number(parts, "max-stale", -1), number(parts, "min-fresh", -1),
        flag(parts, "no-cache", 1) + flag(parts, "no-store", 2) + flag(parts, "only-if-cached", 4));
    x.match(number(parts, "if-match", -1), number(parts, "if-none-match", -1));
    x.since(number(parts, "if-modified-since", -1000), number(parts, "if-unmodified-since", -1000));
    int[] range = range(value(parts, "range"));
    x.range(range[0], range[1], number(parts, "if-range", -1));
    if (!x.draftText().equals(text)) {
      throw new IllegalStateException("\"" + text + "\" became \"" + x.draftText() + "\"");
    }
  }

  /** Sends it and answers its number. */
  static int send(Cachefront x, String text) {
    draft(x, text);
    return x.send();
  }

  /** Sends it, lets TICKS go by until all are TOLD, and answers what it was TOLD, BODY and all. */
  static String told(Cachefront x, String text) {
    int id = send(x, text);
    x.settle(120);
    return answer(x, id);
  }

  /** Sends it and answers what it was TOLD at once. */
  static String atOnce(Cachefront x, String text) {
    return answer(x, send(x, text));
  }

  static String answer(Cachefront x, int id) {
    String body = x.answerBody(id);
    return x.answerText(id) + (body.isEmpty() ? "" : " " + body);
  }

  /** The last FETCH that began. */
  static String lastFetch(Cachefront x) {
    return x.fetchText(x.house(3) - 1);
  }

  /** Only the ORIGIN 2 is left on the ring. */
  static Cachefront alone() {
    Cachefront x = new Cachefront();
    x.weigh(0, 0);
    x.weigh(1, 0);
    return x;
  }

  /** The same, with a DOCUMENT of 8 SIGNS with a strong TAG (12000) at PATH 0, FRESH for 600 TICKS. */
  static Cachefront ready() {
    Cachefront x = alone();
    x.write(0, 8, 3, 0);
    x.policy(0, 600, -1, -1, 0);
    return x;
  }

  /** The ROW becomes that text. */
  static void type(Cachefront x, String text) {
    x.cut(60);
    for (String word : text.split(" ")) {
      if (!word.isEmpty()) {
        x.type(token(word), -1, -1, -1, -1);
      }
    }
  }

  static int token(String word) {
    int word0 = indexOf(WORDS, word);
    return word0 >= 0 ? word0 : 1000 + Integer.parseInt(word);
  }

  private static int indexOf(String[] all, String one) {
    for (int i = 0; i < all.length; i++) {
      if (all[i].equals(one)) {
        return i;
      }
    }
    return -1;
  }

  private static String value(String[] parts, String name) {
    for (String part : parts) {
      if (part.startsWith(name + "=")) {
        return part.substring(name.length() + 1);
      }
    }
    return null;
  }

  private static int number(String[] parts, String name, int absent) {
    String value = value(parts, name);
    return value == null ? absent : value.equals("*") ? -2 : Integer.parseInt(value);
  }

  private static int flag(String[] parts, String name, int flag) {
    for (String part : parts) {
      if (part.equals(name)) {
        return flag;
      }
    }
    return 0;
  }

  private static int[] range(String text) {
    if (text == null) {
      return new int[] {-1, -1};
    }
    int dash = text.indexOf('-');
    String first = text.substring(0, dash);
    String last = text.substring(dash + 1);
    return new int[] {first.isEmpty() ? -1 : Integer.parseInt(first), last.isEmpty() ? -1 : Integer.parseInt(last)};
  }
}
