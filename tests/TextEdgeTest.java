/** The boundary cases of section 8, sentence by sentence: a ROW as a REQUEST and as a POLICY. */
public final class TextEdgeTest {
  private static final Check CHECK = new Check();

  public static void main(String[] args) {
    sixty();
    cutting();
    emptyRow();
    notWhole();
    fullRow();
    asOftenAsOneLikes();
    kinds();
    secondTime();
    bounds();
    rangesOfRows();
    boundsOfItems();
    wrongItems();
    withoutEquals();
    goneTokens();
    drafts();
    tagsOfDrafts();
    tagAndLast();
    ticksOfDrafts();
    policies();
    CHECK.end();
  }

  private static void sixty() {
    CHECK.part("8 a ROW of at most 60 TOKENS");
    for (int there = 54; there <= 60; there++) {
      for (int more = 0; more <= 5; more++) {
        Cachefront x = new Cachefront();
        for (int i = 0; i < there; i++) {
          x.type(-1, -1, i % 34, -1, -1);
        }
        String text = x.typed();
        int[] t = new int[5];
        for (int i = 0; i < 5; i++) {
          t[i] = i >= 5 - more ? 1000 + i : -1;
        }
        if (there + more <= 60) {
          CHECK.same(there + " and " + more, x.type(t[0], t[1], t[2], t[3], t[4]), there + more);
        } else {
          CHECK.throwsOwn(x, there + " and " + more, () -> x.type(t[0], t[1], t[2], t[3], t[4]), IllegalStateException.class);
          CHECK.same("nothing is typed", x.typed(), text);
          CHECK.wrongArgument(x, "IllegalArgumentException goes ahead", () -> x.type(34, t[1], t[2], t[3], t[4]));
        }
      }
    }
    Cachefront x = new Cachefront();
    CHECK.same("NONE for nothing", x.type(-1, -1, -1, -1, -1), 0);
    CHECK.same("in between", x.type(0, -1, 5, -1, 1011), 3);
    CHECK.same("in order", x.typed(), "get / 11");
    CHECK.same("digits", x.type(1000, 1009, 1010, 1099, 1999), 8);
    CHECK.same("digits", x.typed(), "get / 11 0 9 10 99 999");
  }

  private static void cutting() {
    CHECK.part("50 how many (all, if it has not so many)");
    for (int there = 0; there <= 4; there++) {
      for (int many : new int[] {1, 2, 3, 4, 5, 59, 60}) {
        Cachefront x = new Cachefront();
        for (int i = 0; i < there; i++) {
          x.type(i, -1, -1, -1, -1);
        }
        int left = Math.max(0, there - many);
        CHECK.same(many + " of " + there, x.cut(many), left);
        CHECK.same("those in front are left", x.typed(), "get head put post".substring(0, new int[] {0, 3, 8, 12, 17}[left]));
        CHECK.same("typing goes on", x.type(4, -1, -1, -1, -1), left + 1);
      }
    }
    Cachefront x = new Cachefront();
    for (int i = 0; i < 60; i++) {
      x.type(9, -1, -1, -1, -1);
    }
    CHECK.same("59 of 60", x.cut(59), 1);
    CHECK.same("all", x.cut(60), 0);
    CHECK.same("of none", x.cut(60), 0);
  }

  private static void emptyRow() {
    CHECK.part("8 an empty ROW");
    Cachefront x = new Cachefront();
    CHECK.same("as a REQUEST it is just not whole", x.fault(false, false), 1);
    CHECK.same("at 0", x.fault(false, true), 0);
    CHECK.same("as a POLICY it has no FAULT", x.fault(true, false), 0);
    CHECK.same("nowhere", x.fault(true, true), -1);
    CHECK.same("REFUSED", x.toDraft(), -9);
    x.policy(3, 1, 2, 3, 4);
    CHECK.same("no ITEM", x.toPolicy(3), 0);
    CHECK.same("an empty POLICY", x.policyText(3), "");
  }

  private static void fault(String text, boolean isPolicy, int kind, int place) {
    Cachefront x = new Cachefront();
    Talk.type(x, text);
    CHECK.same("KIND of " + text, x.fault(isPolicy, false), kind);
    CHECK.same("place in " + text, x.fault(isPolicy, true), place);
    int to = isPolicy ? x.toPolicy(0) : x.toDraft();
    CHECK.same("REFUSED " + text, to == -9, kind != 0);
  }

  private static void request(String text, int kind, int place) {
    fault(text, false, kind, place);
  }

  private static void item(String text, int kind, int place) {
    fault(text, true, kind, place);
  }

  /** Cuts a whole ROW off behind each TOKEN. */
  private static void cutOff(String text, boolean isPolicy, String wholeAt) {
    String[] words = text.split(" ");
    StringBuilder so = new StringBuilder();
    for (int many = 1; many <= words.length; many++) {
      so.append(many == 1 ? "" : " ").append(words[many - 1]);
      boolean isWhole = wholeAt.contains("," + many + ",");
      fault(so.toString(), isPolicy, isWhole ? 0 : 1, isWhole ? -1 : many);
    }
  }

  private static void notWhole() {
    CHECK.part("8 or how many TOKENS there are, if it is just not whole");
    cutOff("get / 1 , lang = 1 , no-cache , if-match = * , if-none-match = tag", false, ",3,7,9,13,17,");
    cutOff("put / 1 , if-modified-since = now - 5 , if-unmodified-since = 7", false, ",3,7,9,13,");
    cutOff("head / 1 , range = 3 - 5 , if-range = last , size = 1", false, ",3,8,9,13,17,");
    cutOff("delete / 1 , range = - 5 , only-if-cached", false, ",3,8,10,");
    cutOff("post / 1 , range = 5 - , no-store", false, ",3,8,10,");
    cutOff("max-age = 1 , no-store , stale-if = 2 , private", true, ",3,5,9,11,");
  }

  private static void fullRow() {
    CHECK.part("8 a ROW of 60 TOKENS");
    String row = "get / 1 , lang = 1 , coding = 1 , size = 1 , max-age = 1 , max-stale = 1 , min-fresh = 1 , no-cache , "
        + "no-store , if-match = 1 , if-none-match = 1 , if-modified-since = now - 1 , range = 1 - , if-range = 7 , "
        + "if-unmodified-since = now";
    CHECK.same("TOKENS", row.split(" ").length, 58);
    request(row, 0, -1);
    request(row + " -", 1, 59);
    request(row + " - 999", 0, -1);
    request(row + " - -", 1, 59);
    request(row + " , no-cache", 2, 59);
    request(row + " , only-if-cached", 0, -1);
    request(row + " , size", 1, 60);
    request(row + " , get", 1, 59);
    request(row.replace("/ 1 ,", "/ 12 ,") + " - 999", 3, 2);
    Cachefront x = new Cachefront();
    Talk.type(x, row + " - 999");
    CHECK.same("its number", x.toDraft(), 0);
    CHECK.same("all of it", x.draftText(), "GET /1, lang=1, coding=1, size=1, max-age=1, max-stale=1, min-fresh=1, no-cache, "
        + "no-store, if-match=1, if-none-match=1, if-modified-since=-1, if-unmodified-since=-999, range=1-, if-range=7");
  }

  private static void asOftenAsOneLikes() {
    CHECK.part("8 { } as often as one likes, also never; [ ] once or never");
    request("get / 1", 0, -1);
    request("get / 1 , no-cache", 0, -1);
    request("get / 1 , no-cache , no-store", 0, -1);
    request("get / 1 , range = 1 -", 0, -1);
    request("get / 1 , range = 1 - 2", 0, -1);
    request("get / 1 , range = 1 - 2 3", 1, 9);
    request("get / 1 , if-modified-since = now", 0, -1);
    request("get / 1 , if-modified-since = now - 2", 0, -1);
    request("get / 1 , if-modified-since = now - 2 - 3", 1, 9);
    item("no-cache", 0, -1);
    item("no-cache , no-store", 0, -1);
    item(", no-cache", 1, 0);
    item("no-cache , , no-store", 1, 2);
    item("no-cache no-store", 1, 1);
  }

  private static void kinds() {
    CHECK.part("8 FAULTS by KINDS: 1; without one, 2; without one, 3");
    request("get / 12 , no-cache , no-cache , 5", 1, 8);
    request("get / 12 , no-cache , no-cache", 2, 6);
    request("get / 12 , no-cache", 3, 2);
    request("get / 11 , no-cache", 0, -1);
    request("get / 12 , size = 41 , size", 1, 9);
    request("get / 12 , size = 41 , size = 41", 2, 8);
    request("get / 12 , size = 41", 3, 2);
    request("get / 11 , size = 41", 3, 6);
    item("max-age = 601 , max-age = 601 ,", 1, 8);
    item("max-age = 601 , max-age = 601", 2, 4);
    item("max-age = 601", 3, 2);
    request("no-cache , no-cache", 1, 0);
    item("get / 12", 1, 0);
    item("lang = 1", 1, 0);
    request("max-age = 5", 1, 0);
    request("get / 1 , s-maxage = 5", 1, 4);
  }

  private static void secondTime() {
    CHECK.part("8 the place of the first word that stands there a second time");
    String[] fields = {"lang = 1", "coding = 1", "size = 1", "max-age = 1", "max-stale = 1", "min-fresh = 1", "no-cache",
        "no-store", "only-if-cached", "if-match = *", "if-none-match = tag", "if-modified-since = now",
        "if-unmodified-since = now - 1", "range = 1 - 1", "if-range = last"};
    for (String field : fields) {
      int words = field.split(" ").length;
      request("get / 1 , " + field + " , " + field, 2, 5 + words);
      request("get / 99 , " + field + " , " + field + " , " + field, 2, 5 + words);
    }
    String[] items = {"max-age = 1", "s-maxage = 1", "expires = 1", "stale-while = 1", "stale-if = 1", "no-store",
        "no-cache", "private", "must-revalidate"};
    for (String one : items) {
      int words = one.split(" ").length;
      item(one + " , " + one, 2, words + 1);
      for (String other : items) {
        if (!one.equals(other)) {
          item(one + " , " + other, 0, -1);
          item(one + " , " + other + " , " + one, 2, words + other.split(" ").length + 2);
        }
      }
    }
    request("get / 1 , if-match = tag , if-none-match = tag , if-range = tag", 0, -1);
    request("get / 1 , if-modified-since = now , if-unmodified-since = now", 0, -1);
    request("get / 1 , if-match = last , if-none-match = last , if-range = last", 0, -1);
    request("get / 1 , no-cache , no-store , no-store , no-cache", 2, 8);
  }

  private static void bounds() {
    CHECK.part("8 the place of the first NUMBER that is out of its bounds");
    for (int path : new int[] {0, 1, 10, 11, 12, 13, 999}) {
      for (String method : new String[] {"get", "head", "put", "post", "delete"}) {
        request(method + " / " + path, path > 11 ? 3 : 0, path > 11 ? 2 : -1);
      }
    }
    String[] words = {"lang", "coding", "size", "max-age", "max-stale", "min-fresh"};
    int[] most = {2, 1, 40, 600, 600, 600};
    for (int i = 0; i < words.length; i++) {
      for (int number : new int[] {0, most[i] - 1, most[i], most[i] + 1, 999}) {
        boolean isOut = number > most[i];
        request("get / 0 , " + words[i] + " = " + number, isOut ? 3 : 0, isOut ? 6 : -1);
        request("get / 0 , no-cache , " + words[i] + " = " + number, isOut ? 3 : 0, isOut ? 8 : -1);
        request("get / 99 , " + words[i] + " = " + number, 3, 2);
      }
      request("get / 0 , " + words[i] + " = 999 , range = 1 - 0", 3, 6);
    }
    for (String word : new String[] {"if-match", "if-none-match", "if-range", "if-modified-since", "if-unmodified-since"}) {
      request("get / 0 , " + word + " = 0", 0, -1);
      request("get / 0 , " + word + " = 999", 0, -1);
    }
    request("get / 0 , if-modified-since = now - 999 , size = 41", 3, 12);
  }

  private static void rangesOfRows() {
    CHECK.part("8 a RANGE's last one not below its first one, of the end not 0: of these the last NUMBER");
    request("get / 0 , range = 0 - 0", 0, -1);
    request("get / 0 , range = 1 - 0", 3, 8);
    request("get / 0 , range = 999 - 999", 0, -1);
    request("get / 0 , range = 999 - 998", 3, 8);
    request("get / 0 , range = 0 - 999", 0, -1);
    request("get / 0 , range = 0 -", 0, -1);
    request("get / 0 , range = 999 -", 0, -1);
    request("get / 0 , range = - 0", 3, 7);
    request("get / 0 , range = - 1", 0, -1);
    request("get / 0 , range = - 999", 0, -1);
    request("get / 0 , range = 5 - 4 , size = 41", 3, 8);
    request("get / 0 , size = 41 , range = 5 - 4", 3, 6);
    request("get / 0 , range = 5 - , size = 3", 0, -1);
    request("get / 0 , range = 5 - , size = 41", 3, 11);
  }

  private static void boundsOfItems() {
    String[] words = {"max-age", "s-maxage", "expires", "stale-while", "stale-if"};
    int[] most = {600, 600, 600, 60, 60};
    for (int i = 0; i < words.length; i++) {
      for (int number : new int[] {0, 59, 60, 61, 599, 600, 601, 999}) {
        boolean isOut = number > most[i];
        item(words[i] + " = " + number, isOut ? 3 : 0, isOut ? 2 : -1);
        item("private , " + words[i] + " = " + number + " , no-cache", isOut ? 3 : 0, isOut ? 4 : -1);
      }
    }
    item("stale-if = 61 , max-age = 601", 3, 2);
    item("stale-if = 60 , max-age = 601", 3, 6);
  }

  private static void wrongItems() {
    CHECK.part("8 ITEM: = NUMBER");
    for (String word : new String[] {"max-age", "s-maxage", "expires", "stale-while", "stale-if"}) {
      for (String odd : new String[] {"*", "tag", "last", "now", "-", "=", ",", "/", "get", "max-age", "private"}) {
        item(word + " = " + odd, 1, 2);
        item(word + " " + (odd.equals("=") ? "-" : odd), 1, 1);
      }
    }
    CHECK.part("8 FIELD: = NUMBER");
    for (String word : new String[] {"lang", "coding", "size", "max-age", "max-stale", "min-fresh"}) {
      for (String odd : new String[] {"*", "tag", "last", "now", "-", "=", ",", "/", "get", "lang"}) {
        request("get / 0 , " + word + " = " + odd, 1, 6);
      }
    }
  }

  private static void withoutEquals() {
    CHECK.part("8 the first TOKEN that can not stand there: = is due");
    String[] fields = {"lang", "coding", "size", "max-age", "max-stale", "min-fresh", "if-match", "if-none-match",
        "if-modified-since", "if-unmodified-since", "range", "if-range"};
    for (String field : fields) {
      for (String odd : new String[] {"*", "tag", "last", "now", "-", ",", "/", "get", "5", "lang", "no-cache"}) {
        request("get / 1 , " + field + " " + odd, 1, 5);
        request("get / 1 , " + field + " " + odd + " 5", 1, 5);
        request("get / 1 , " + field + " " + odd + " 5 -", 1, 5);
        request("get / 1 , " + field + " " + odd + " now", 1, 5);
      }
    }
    for (String item : new String[] {"max-age", "s-maxage", "expires", "stale-while", "stale-if"}) {
      item(item + " - 5", 1, 1);
      item(item + " 5 5", 1, 1);
    }
    request("get - 1", 1, 1);
    request("get 5 1", 1, 1);
    request("get / * , lang = 1", 1, 2);
  }

  private static void goneTokens() {
    CHECK.part("50 the last TOKENS of the ROW go");
    Cachefront x = new Cachefront();
    Talk.type(x, "get / 1 , range = 5 - 4");
    CHECK.same("a FAULT", x.fault(false, true), 8);
    x.cut(1);
    CHECK.same("gone with its TOKEN", x.fault(false, false), 0);
    CHECK.same("its number", x.toDraft(), 0);
    CHECK.same("to the end", x.draftText(), "GET /1, range=5-");
    Talk.type(x, "get / 1 , if-modified-since = now - 7");
    x.goBy(3);
    x.cut(2);
    CHECK.same("its number", x.toDraft(), 0);
    CHECK.same("now", x.draftText(), "GET /1, if-modified-since=3");
    Talk.type(x, "get / 12 , lang = 5 , lang = 5");
    x.cut(9);
    CHECK.same("cut in the middle", x.fault(false, true), 2);
    x.type(1001, -1, -1, -1, -1);
    CHECK.same("typed again", x.typed(), "get / 1");
    CHECK.same("no FAULT", x.fault(false, false), 0);
    Talk.type(x, "max-age = 601 , max-age = 601");
    x.cut(6);
    CHECK.same("as a POLICY", x.fault(true, true), 1);
    x.type(7, 1600, -1, -1, -1);
    CHECK.same("one ITEM", x.toPolicy(2), 1);
    CHECK.same("that one", x.policyText(2), "max-age=600");
    x.cut(60);
    CHECK.same("none", x.toPolicy(2), 0);
    CHECK.same("nothing is left of it", x.policyText(2), "");
  }

  private static void becomes(Cachefront x, String row, String due) {
    Talk.type(x, row);
    CHECK.same("its number", x.toDraft(), x.house(1));
    CHECK.same(row, x.draftText(), due);
  }

  private static void drafts() {
    CHECK.part("8 as a DRAFT: what is not there is as in an empty DRAFT");
    String[] methods = {"get", "head", "put", "post", "delete"};
    for (String method : methods) {
      Cachefront x = new Cachefront();
      Talk.draft(x, "PUT /3, lang=1, coding=1, size=5, max-age=1, max-stale=2, min-fresh=3, no-cache, no-store, "
          + "only-if-cached, if-match=1, if-none-match=2, if-modified-since=3, if-unmodified-since=4, range=1-2, if-range=5");
      becomes(x, method + " / 0", method.toUpperCase() + " /0");
    }
    Cachefront x = new Cachefront();
    becomes(x, "get / 0 , lang = 0 , coding = 0 , size = 0", "GET /0");
    becomes(x, "get / 0 , max-age = 0 , max-stale = 0 , min-fresh = 0", "GET /0, max-age=0, max-stale=0, min-fresh=0");
    becomes(x, "get / 0 , max-age = 600 , max-stale = 600 , min-fresh = 600", "GET /0, max-age=600, max-stale=600, min-fresh=600");
    String[] wishes = {"no-cache", "no-store", "only-if-cached"};
    for (String wish : wishes) {
      becomes(x, "get / 0 , " + wish, "GET /0, " + wish);
    }
    becomes(x, "get / 0 , no-cache , only-if-cached", "GET /0, no-cache, only-if-cached");
    becomes(x, "get / 0 , range = 0 -", "GET /0, range=0-");
    becomes(x, "get / 0 , range = - 999", "GET /0, range=-999");
    becomes(x, "get / 0 , if-range = 0", "GET /0, if-range=0");
    becomes(x, "get / 0 , if-match = * , if-none-match = *", "GET /0, if-match=*, if-none-match=*");
    becomes(x, "get / 0 , if-match = 0 , if-none-match = 0", "GET /0, if-match=0, if-none-match=0");
  }

  private static void tagsOfDrafts() {
    CHECK.part("8 \"tag\" the TAG that the house has now for the PATH, with LANG and CODING of the DRAFT (0, if NONE)");
    for (int sort = 0; sort <= 3; sort++) {
      Cachefront x = new Cachefront();
      x.write(7, 3, sort, 3);
      int least = sort == 3 ? 12000 : 12001;
      for (int lang = 0; lang <= 2; lang++) {
        for (int coding = 0; coding <= 1; coding++) {
          int tag = sort < 2 ? 0 : least + 2 * (lang + 3 * coding);
          String of = (lang == 0 ? "" : ", lang=" + lang) + (coding == 0 ? "" : ", coding=" + coding);
          becomes(x, "get / 7 , if-match = tag , if-none-match = tag , if-range = tag , lang = " + lang + " , coding = " + coding,
              "GET /7" + of + ", if-match=" + tag + ", if-none-match=" + tag + ", if-range=" + tag);
        }
      }
      becomes(x, "get / 6 , if-match = tag", "GET /6, if-match=0");
      x.touch(7);
      becomes(x, "get / 7 , if-match = tag", "GET /7, if-match=" + (sort == 3 ? 12012 : sort == 2 ? 12001 : 0));
      x.remove(7);
      becomes(x, "get / 7 , if-match = tag", "GET /7, if-match=0");
    }
    Cachefront x = new Cachefront();
    becomes(x, "get / 7 , if-match = last , if-none-match = last , if-range = last",
        "GET /7, if-match=0, if-none-match=0, if-range=0");
  }

  private static void tagAndLast() {
    CHECK.part("8 \"tag\" and \"last\" in each FIELD");
    Cachefront x = Talk.ready();
    x.write(1, 3, 2, 0);
    Talk.told(x, "GET /0");
    String[] fields = {"if-match", "if-none-match", "if-range"};
    for (String one : fields) {
      becomes(x, "get / 1 , " + one + " = last", "GET /1, " + one + "=12000");
      becomes(x, "get / 1 , " + one + " = tag", "GET /1, " + one + "=12001");
      becomes(x, "get / 1 , " + one + " = 7", "GET /1, " + one + "=7");
      becomes(x, "get / 2 , " + one + " = tag", "GET /2, " + one + "=0");
    }
    becomes(x, "get / 1 , if-match = last , if-none-match = tag , if-range = last",
        "GET /1, if-match=12000, if-none-match=12001, if-range=12000");
    becomes(x, "get / 1 , if-match = tag , if-none-match = last , if-range = tag",
        "GET /1, if-match=12001, if-none-match=12000, if-range=12001");
    becomes(x, "get / 1 , if-modified-since = 5 , if-unmodified-since = now", "GET /1, if-modified-since=5, if-unmodified-since=2");
    becomes(x, "get / 1 , if-modified-since = now , if-unmodified-since = 5", "GET /1, if-modified-since=2, if-unmodified-since=5");
  }

  private static void ticksOfDrafts() {
    CHECK.part("8 \"now\" is NOW, less the NUMBER");
    Cachefront x = new Cachefront();
    becomes(x, "get / 0 , if-modified-since = now", "GET /0, if-modified-since=0");
    becomes(x, "get / 0 , if-modified-since = now - 0", "GET /0, if-modified-since=0");
    becomes(x, "get / 0 , if-unmodified-since = now - 999", "GET /0, if-unmodified-since=-999");
    becomes(x, "get / 0 , if-unmodified-since = 999", "GET /0, if-unmodified-since=999");
    x.goBy(60);
    becomes(x, "get / 0 , if-unmodified-since = now - 1 , if-modified-since = now",
        "GET /0, if-modified-since=60, if-unmodified-since=59");
    becomes(x, "get / 0 , if-unmodified-since = 0", "GET /0, if-unmodified-since=0");
  }

  private static void policies() {
    CHECK.part("8 as a POLICY all that is not there is NONE, 0, or not in FLAGS");
    String[] items = {"max-age = 0", "s-maxage = 0", "expires = 0", "stale-while = 60", "stale-if = 60", "no-store",
        "no-cache", "private", "must-revalidate"};
    String[] texts = {"max-age=0", "s-maxage=0", "expires=0", "stale-while=60", "stale-if=60", "no-store", "no-cache",
        "private", "must-revalidate"};
    for (int i = 0; i < items.length; i++) {
      Cachefront x = new Cachefront();
      x.policy(5, 1, 2, 3, 15);
      x.stale(5, 4, 5);
      Talk.type(x, items[i]);
      CHECK.same("one ITEM", x.toPolicy(5), 1);
      CHECK.same(items[i], x.policyText(5), texts[i]);
      CHECK.same("others stay", x.policyText(4), "");
      CHECK.same("the ROW stays", x.typed(), items[i]);
    }
    Cachefront x = new Cachefront();
    Talk.type(x, "stale-while = 0 , stale-if = 0");
    CHECK.same("two ITEMS", x.toPolicy(0), 2);
    CHECK.same("that tell nothing", x.policyText(0), "");
    Talk.type(x, "must-revalidate , private , no-cache , no-store , expires = 600 , s-maxage = 600 , max-age = 600");
    CHECK.same("seven ITEMS", x.toPolicy(0), 7);
    int[] due = {600, 600, 600, 15, 0, 0};
    for (int i = 0; i < due.length; i++) {
      CHECK.same("ofPath(0, " + (6 + i) + ")", x.ofPath(0, 6 + i), due[i]);
    }
  }
}
