import java.util.ArrayList;
import java.util.Arrays;
import java.util.List;

/** Promises 49 to 54 and section 8: a ROW and what it tells. */
public final class TextTest {
  private static final Check CHECK = new Check();
  private static final List<String> WORDS = Arrays.asList("get", "head", "put", "post", "delete", "/", ",", "=", "-",
      "*", "lang", "coding", "size", "max-age", "max-stale", "min-fresh", "no-cache", "no-store", "only-if-cached",
      "if-match", "if-none-match", "if-modified-since", "if-unmodified-since", "range", "if-range", "s-maxage",
      "expires", "private", "must-revalidate", "stale-while", "stale-if", "now", "tag", "last");

  public static void main(String[] args) {
    type();
    cut();
    typed();
    forms();
    itemForms();
    repeated();
    bounds();
    toDraft();
    namedTags();
    toPolicy();
    CHECK.end();
  }

  private static int token(String word) {
    return WORDS.contains(word) ? WORDS.indexOf(word) : 1000 + Integer.parseInt(word);
  }

  /** The ROW becomes that text. */
  private static void row(Cachefront x, String text) {
    x.cut(60);
    List<Integer> all = new ArrayList<>();
    for (String word : text.split(" ")) {
      if (!word.isEmpty()) {
        all.add(token(word));
      }
    }
    while (all.size() % 5 != 0) {
      all.add(-1);
    }
    for (int i = 0; i < all.size(); i += 5) {
      x.type(all.get(i), all.get(i + 1), all.get(i + 2), all.get(i + 3), all.get(i + 4));
    }
    CHECK.same("typed", x.typed(), text);
  }

  private static void type() {
    CHECK.part("49 type");
    Cachefront x = new Cachefront();
    CHECK.same("nothing", x.type(-1, -1, -1, -1, -1), 0);
    CHECK.same("some", x.type(-1, 0, -1, 1000, 1999), 3);
    CHECK.same("in their order", x.typed(), "get 0 999");
    int[] wrong = {-2, 34, 999, 2000, Integer.MIN_VALUE, Integer.MAX_VALUE};
    for (int w : wrong) {
      CHECK.wrongArgument(x, "type a", () -> x.type(w, 0, 0, 0, 0));
      CHECK.wrongArgument(x, "type b", () -> x.type(0, w, 0, 0, 0));
      CHECK.wrongArgument(x, "type c", () -> x.type(0, 0, w, 0, 0));
      CHECK.wrongArgument(x, "type d", () -> x.type(0, 0, 0, w, 0));
      CHECK.wrongArgument(x, "type e", () -> x.type(-1, -1, -1, -1, w));
    }
    for (int i = 0; i < 11; i++) {
      x.type(33, 33, 33, 33, 33);
    }
    CHECK.same("58", x.type(-1, -1, -1, -1, -1), 58);
    CHECK.throwsOwn(x, "three more", () -> x.type(1, 1, 1, -1, -1), IllegalStateException.class);
    CHECK.throwsOwn(x, "three more", () -> x.type(-1, -1, 1, 1, 1), IllegalStateException.class);
    CHECK.wrongArgument(x, "IllegalArgumentException goes ahead", () -> x.type(1, 1, 1, 34, 1));
    CHECK.same("two more", x.type(-1, 1, -1, -1, 1), 60);
    CHECK.throwsOwn(x, "one more", () -> x.type(1, -1, -1, -1, -1), IllegalStateException.class);
    CHECK.same("none", x.type(-1, -1, -1, -1, -1), 60);
  }

  private static void cut() {
    CHECK.part("50 cut");
    Cachefront x = new Cachefront();
    CHECK.same("none there", x.cut(1), 0);
    x.type(10, 11, 12, 13, 14);
    CHECK.same("two", x.cut(2), 3);
    CHECK.same("the last ones", x.typed(), "lang coding size");
    CHECK.same("all", x.cut(60), 0);
    CHECK.same("all", x.typed(), "");
    for (int many : new int[] {0, 61, -1, Integer.MIN_VALUE, Integer.MAX_VALUE}) {
      CHECK.wrongArgument(x, "cut(" + many + ")", () -> x.cut(many));
    }
  }

  private static void typed() {
    CHECK.part("51 typed");
    for (int token = 0; token <= 33; token++) {
      Cachefront x = new Cachefront();
      x.type(token, -1, -1, -1, -1);
      CHECK.same("TOKEN " + token, x.typed(), WORDS.get(token));
    }
    Cachefront x = new Cachefront();
    x.type(1000, 1007, 1010, 1999, 8);
    CHECK.same("NUMBERS", x.typed(), "0 7 10 999 -");
  }

  private static void faulty(String text, boolean isPolicy, int kind, int place) {
    Cachefront x = new Cachefront();
    row(x, text);
    CHECK.same("KIND of " + text, x.fault(isPolicy, false), kind);
    CHECK.same("place in " + text, x.fault(isPolicy, true), place);
  }

  private static void request(String text, int kind, int place) {
    faulty(text, false, kind, place);
  }

  private static void item(String text, int kind, int place) {
    faulty(text, true, kind, place);
  }

  private static void forms() {
    CHECK.part("52 fault of a REQUEST");
    request("", 1, 0);
    for (String method : new String[] {"get", "head", "put", "post", "delete"}) {
      request(method, 1, 1);
      request(method + " / 11", 0, -1);
    }
    request("/ 1", 1, 0);
    request("lang = 1", 1, 0);
    request("5 / 1", 1, 0);
    request("get get / 1", 1, 1);
    request("get / lang", 1, 2);
    request("get / 1 2", 1, 3);
    request("get / 1 ,", 1, 4);
    request("get / 1 , ,", 1, 4);
    request("get / 1 , 5", 1, 4);
    for (String word : new String[] {"lang", "coding", "size", "max-age", "max-stale", "min-fresh"}) {
      request("get / 1 , " + word, 1, 5);
      request("get / 1 , " + word + " 1", 1, 5);
      request("get / 1 , " + word + " =", 1, 6);
      request("get / 1 , " + word + " = *", 1, 6);
      request("get / 1 , " + word + " = 1", 0, -1);
      request("get / 1 , " + word + " = 1 , no-cache", 0, -1);
    }
    for (String word : new String[] {"no-cache", "no-store", "only-if-cached"}) {
      request("get / 1 , " + word, 0, -1);
      request("get / 1 , " + word + " = 1", 1, 5);
    }
    for (String word : new String[] {"s-maxage", "expires", "private", "must-revalidate", "stale-while", "stale-if",
        "now", "tag", "last", "=", "-", "*", "/"}) {
      request("get / 1 , " + word, 1, 4);
    }
    for (String word : new String[] {"if-match", "if-none-match", "if-range"}) {
      request("get / 1 , " + word, 1, 5);
      request("get / 1 , " + word + " =", 1, 6);
      request("get / 1 , " + word + " = tag", 0, -1);
      request("get / 1 , " + word + " = last", 0, -1);
      request("get / 1 , " + word + " = 999", 0, -1);
      request("get / 1 , " + word + " = now", 1, 6);
      request("get / 1 , " + word + " = * 5", 1, word.equals("if-range") ? 6 : 7);
      request("get / 1 , " + word + " = *", word.equals("if-range") ? 1 : 0, word.equals("if-range") ? 6 : -1);
    }
    dates();
    ranges();
  }

  private static void dates() {
    for (String word : new String[] {"if-modified-since", "if-unmodified-since"}) {
      request("get / 1 , " + word + " =", 1, 6);
      request("get / 1 , " + word + " = 5", 0, -1);
      request("get / 1 , " + word + " = 5 - 5", 1, 7);
      request("get / 1 , " + word + " = now", 0, -1);
      request("get / 1 , " + word + " = now - 999 , size = 1", 0, -1);
      request("get / 1 , " + word + " = now , size = 1", 0, -1);
      request("get / 1 , " + word + " = now -", 1, 8);
      request("get / 1 , " + word + " = now - now", 1, 8);
      request("get / 1 , " + word + " = now 5", 1, 7);
      request("get / 1 , " + word + " = tag", 1, 6);
      request("get / 1 , " + word + " = *", 1, 6);
      request("get / 1 , " + word + " = -", 1, 6);
    }
  }

  private static void ranges() {
    request("get / 1 , range", 1, 5);
    request("get / 1 , range =", 1, 6);
    request("get / 1 , range = 5", 1, 7);
    request("get / 1 , range = 5 -", 0, -1);
    request("get / 1 , range = 5 - , size = 1", 0, -1);
    request("get / 1 , range = 5 , size = 1", 1, 7);
    request("get / 1 , range = 5 - 5", 0, -1);
    request("get / 1 , range = 5 - 5 - 5", 1, 9);
    request("get / 1 , range = - 1", 0, -1);
    request("get / 1 , range = -", 1, 7);
    request("get / 1 , range = - -", 1, 7);
    request("get / 1 , range = - 1 -", 1, 8);
    request("get / 1 , range = *", 1, 6);
  }

  private static void itemForms() {
    CHECK.part("52 fault of a POLICY");
    item("", 0, -1);
    for (String word : new String[] {"max-age", "s-maxage", "expires", "stale-while", "stale-if"}) {
      item(word, 1, 1);
      item(word + " =", 1, 2);
      item(word + " 5", 1, 1);
      item(word + " = now", 1, 2);
      item(word + " = 60", 0, -1);
      item(word + " = 60 ,", 1, 4);
      item(word + " = 60 , private", 0, -1);
      item(word + " = 60 private", 1, 3);
    }
    for (String word : new String[] {"no-store", "no-cache", "private", "must-revalidate"}) {
      item(word, 0, -1);
      item(word + " = 1", 1, 1);
      item("max-age = 0 , " + word, 0, -1);
      item(word + " , expires = 1", 0, -1);
    }
    for (String word : new String[] {"get", "/", ",", "=", "-", "*", "lang", "coding", "size", "max-stale", "min-fresh",
        "only-if-cached", "if-match", "if-none-match", "if-modified-since", "if-unmodified-since", "range", "if-range",
        "now", "tag", "last", "7"}) {
      item(word, 1, 0);
      item("private , " + word, 1, 2);
    }
  }

  private static void repeated() {
    CHECK.part("52 a word a second time");
    request("get / 1 , lang = 1 , lang = 1", 2, 8);
    request("get / 99 , lang = 9 , coding = 9 , lang = 1", 2, 12);
    request("get / 1 , no-cache , size = 1 , no-cache , size = 1", 2, 10);
    request("get / 1 , no-cache , no-cache ,", 1, 8);
    request("get / 1 , if-match = tag , if-none-match = tag , if-range = tag", 0, -1);
    request("get / 1 , range = 5 - 1 , range = - 0", 2, 10);
    item("private , private", 2, 2);
    item("max-age = 999 , s-maxage = 1 , max-age = 1", 2, 8);
    item("stale-if = 61 , no-store , stale-while = 1 , no-store , stale-if = 1", 2, 10);
  }

  private static void bounds() {
    CHECK.part("52 a NUMBER out of its bounds");
    request("get / 12", 3, 2);
    request("get / 12 , lang = 3", 3, 2);
    String[] words = {"lang", "coding", "size", "max-age", "max-stale", "min-fresh"};
    int[] most = {2, 1, 40, 600, 600, 600};
    for (int i = 0; i < words.length; i++) {
      request("get / 0 , " + words[i] + " = " + most[i], 0, -1);
      request("get / 0 , no-store , " + words[i] + " = " + (most[i] + 1), 3, 8);
    }
    request("get / 0 , range = 5 - 4", 3, 8);
    request("get / 0 , range = 5 - 4 , lang = 3", 3, 8);
    request("get / 0 , lang = 3 , range = 5 - 4", 3, 6);
    request("get / 0 , range = - 0", 3, 7);
    request("get / 0 , range = 0 - 0", 0, -1);
    request("get / 0 , range = 999 -", 0, -1);
    request("get / 0 , range = 999 - , size = 41", 3, 11);
    request("get / 0 , if-match = 999 , if-range = 999 , if-modified-since = now - 999 , if-unmodified-since = 999", 0, -1);
    String[] items = {"max-age", "s-maxage", "expires", "stale-while", "stale-if"};
    int[] best = {600, 600, 600, 60, 60};
    for (int i = 0; i < items.length; i++) {
      item(items[i] + " = " + best[i], 0, -1);
      item("private , " + items[i] + " = " + (best[i] + 1), 3, 4);
    }
    item("max-age = 601 , stale-if = 61", 3, 2);
  }

  private static String drafted(Cachefront x, String text) {
    row(x, text);
    CHECK.same("its number", x.toDraft(), x.house(1));
    return x.draftText();
  }

  private static void toDraft() {
    CHECK.part("53 toDraft");
    Cachefront x = new Cachefront();
    x.draft(2, 3, 1, 1, 5);
    x.wish(1, 2, 3, 7);
    row(x, "get / 12");
    CHECK.same("a FAULT", x.toDraft(), -9);
    CHECK.same("REFUSED is counted", x.house(21), 1);
    CHECK.same("nothing changed", x.draftText(), "PUT /3, lang=1, coding=1, size=5, max-age=1, max-stale=2, "
        + "min-fresh=3, no-cache, no-store, only-if-cached");
    CHECK.same("empty", drafted(x, "head / 11"), "HEAD /11");
    CHECK.same("in any order", drafted(x, "put / 0 , only-if-cached , no-store , no-cache , min-fresh = 1 , max-stale = 2 "
        + ", max-age = 3 , size = 4 , coding = 1 , lang = 2"), "PUT /0, lang=2, coding=1, size=4, max-age=3, "
        + "max-stale=2, min-fresh=1, no-cache, no-store, only-if-cached");
    CHECK.same("any", drafted(x, "post / 1 , if-none-match = * , if-match = *"), "POST /1, if-match=*, if-none-match=*");
    CHECK.same("TAGS", drafted(x, "get / 1 , if-range = 3 , if-none-match = 2 , if-match = 1"),
        "GET /1, if-match=1, if-none-match=2, if-range=3");
    x.goBy(7);
    CHECK.same("TICKS", drafted(x, "get / 1 , if-modified-since = now , if-unmodified-since = now - 10"),
        "GET /1, if-modified-since=7, if-unmodified-since=-3");
    CHECK.same("TICKS", drafted(x, "get / 1 , if-modified-since = 0 , if-unmodified-since = 999"),
        "GET /1, if-modified-since=0, if-unmodified-since=999");
    CHECK.same("RANGE", drafted(x, "get / 1 , range = 2 - 5"), "GET /1, range=2-5");
    CHECK.same("RANGE", drafted(x, "get / 1 , range = 2 - , lang = 1"), "GET /1, lang=1, range=2-");
    CHECK.same("RANGE", drafted(x, "get / 1 , range = - 5"), "GET /1, range=-5");
    CHECK.same("RANGE", drafted(x, "get / 1 , range = 0 -"), "GET /1, range=0-");
    row(x, "get / 2 , size = 0");
    x.get(0, 0, 0);
    CHECK.same("its number", x.toDraft(), 1);
    CHECK.same("the ROW stays", x.typed(), "get / 2 , size = 0");
  }

  private static void namedTags() {
    CHECK.part("53 tag and last");
    Cachefront x = new Cachefront();
    CHECK.same("none", drafted(x, "get / 1 , if-match = tag , if-none-match = last"), "GET /1, if-match=0, if-none-match=0");
    x.write(1, 3, 3, 3);
    x.write(2, 3, 2, 1);
    x.write(3, 3, 1, 0);
    CHECK.same("of LANG and CODING", drafted(x, "get / 1 , if-range = tag , coding = 1 , lang = 2"),
        "GET /1, lang=2, coding=1, if-range=12010");
    CHECK.same("a weak one", drafted(x, "get / 2 , if-match = tag , lang = 1"), "GET /2, lang=1, if-match=12003");
    CHECK.same("of none", drafted(x, "get / 3 , if-match = tag"), "GET /3, if-match=0");
    x.get(1, 1, 0);
    x.settle(9);
    CHECK.same("told last", drafted(x, "get / 9 , if-match = last"), "GET /9, if-match=12002");
    x.get(3, 0, 0);
    x.get(9, 0, 0);
    x.settle(9);
    CHECK.same("one without a TAG was told", drafted(x, "get / 9 , if-match = last"), "GET /9, if-match=12002");
    x.get(2, 0, 0);
    x.settle(9);
    CHECK.same("told last", drafted(x, "get / 9 , if-range = last"), "GET /9, if-range=12001");
    x.draft(1, 1, 1, 0, 0);
    x.wish(-1, 600, -1, 0);
    x.match(-1, -2);
    x.send();
    CHECK.same("with a 304 and a HEAD, too", drafted(x, "get / 9 , if-range = last"), "GET /9, if-range=12002");
  }

  private static void toPolicy() {
    CHECK.part("54 toPolicy");
    Cachefront x = new Cachefront();
    x.policy(0, 1, 2, 3, 15);
    x.stale(0, 4, 5);
    row(x, "max-age = 601");
    CHECK.same("a FAULT", x.toPolicy(0), -9);
    CHECK.same("REFUSED is counted", x.house(21), 1);
    CHECK.same("nothing changed", x.policyText(0), "max-age=1, s-maxage=2, expires=3, no-store, no-cache, private, "
        + "must-revalidate, stale-while=4, stale-if=5");
    CHECK.outOfBounds(x, "toPolicy(12)", () -> x.toPolicy(12));
    CHECK.outOfBounds(x, "toPolicy(-1)", () -> x.toPolicy(-1));
    row(x, "stale-if = 60 , must-revalidate , private , no-cache , no-store , stale-while = 7 , expires = 8 , s-maxage = 9 "
        + ", max-age = 10");
    CHECK.same("all", x.toPolicy(11), 9);
    CHECK.same("all", x.policyText(11), "max-age=10, s-maxage=9, expires=8, no-store, no-cache, private, "
        + "must-revalidate, stale-while=7, stale-if=60");
    row(x, "no-cache , expires = 0");
    CHECK.same("two", x.toPolicy(0), 2);
    CHECK.same("two", x.policyText(0), "expires=0, no-cache");
    CHECK.same("STALE_WHILE is gone", x.ofPath(0, 10), 0);
    CHECK.same("STALE_IF is gone", x.ofPath(0, 11), 0);
    x.cut(60);
    CHECK.same("none", x.toPolicy(11), 0);
    CHECK.same("none", x.policyText(11), "");
  }
}
