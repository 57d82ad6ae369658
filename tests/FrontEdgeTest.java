/** The boundary cases of section 6, sentence by sentence: what the front does with a REQUEST. */
public final class FrontEdgeTest {
  private static final Check CHECK = new Check();
  private static final int NEVER = -1000;

  public static void main(String[] args) {
    isPass();
    askedByPass();
    wanted();
    wantsAge();
    wantsFresh();
    letsStale();
    staleWhile();
    strict();
    noCache();
    inTheBackground();
    onlyKept();
    joinable();
    notJoinable();
    CHECK.end();
  }

  private static int would(Cachefront x, String text) {
    Talk.draft(x, text);
    return x.wouldBe();
  }

  private static void isPass() {
    CHECK.part("6 PUT, POST, DELETE, and a GET or HEAD with an IF_MATCH or IF_UNCHANGED, or with NO_STORE: a PASS");
    Cachefront x = Talk.ready();
    Talk.told(x, "GET /0");
    for (String text : new String[] {"PUT /0", "POST /0", "DELETE /0", "GET /0, if-match=*", "GET /0, if-match=0",
        "HEAD /0, if-match=12000", "GET /0, if-unmodified-since=0", "GET /0, if-unmodified-since=-999",
        "HEAD /0, if-unmodified-since=900", "GET /0, no-store", "HEAD /0, no-store", "GET /0, no-store, only-if-cached",
        "GET /0, only-if-cached, if-match=*", "PUT /0, only-if-cached", "GET /0, no-cache, no-store"}) {
      CHECK.same(text, would(x, text), 6);
    }
    for (String text : new String[] {"GET /0", "HEAD /0", "GET /0, if-none-match=*", "HEAD /0, if-none-match=0",
        "GET /0, if-modified-since=0", "GET /0, range=0-1", "GET /0, range=0-1, if-range=5", "GET /0, only-if-cached"}) {
      CHECK.same(text, would(x, text), 0);
    }
  }

  private static void askedByPass() {
    CHECK.part("6 a FETCH of its own, with all that it has; with NO_STORE, but without these two: a plain GET");
    for (String text : new String[] {"PUT /0, lang=1, coding=1, size=40, max-age=1, max-stale=2, min-fresh=3, no-cache, "
        + "no-store, only-if-cached, if-match=*, if-none-match=5, if-modified-since=6, if-unmodified-since=7, "
        + "range=0-1, if-range=8", "PUT /0, no-store", "POST /0, no-store, range=-1", "DELETE /0, no-store",
        "GET /0, no-store, if-match=*, range=2-", "HEAD /0, size=3, no-store, if-unmodified-since=0, range=2-3",
        "GET /0, max-age=5, if-match=12000, if-none-match=*"}) {
      Cachefront x = Talk.ready();
      Talk.send(x, text);
      CHECK.same("with all that it has", Talk.lastFetch(x), text);
      CHECK.same("a PASS", x.ofFetch(0, 0), 3);
    }
    for (String text : new String[] {"GET /0, lang=1, coding=1, no-store", "HEAD /0, lang=1, coding=1, no-store",
        "GET /0, lang=1, coding=1, size=9, max-age=1, max-stale=2, min-fresh=3, no-cache, no-store, only-if-cached, "
        + "if-none-match=5, if-modified-since=6, range=0-1, if-range=8"}) {
      Cachefront x = Talk.ready();
      Talk.send(x, text);
      CHECK.same("a plain GET", Talk.lastFetch(x), "GET /0, lang=1, coding=1");
      CHECK.same("a PASS", x.ofFetch(0, 0), 3);
    }
  }

  private static void wanted() {
    CHECK.part("6 WANTED are all places; with a RANGE (only of a GET), and no IF_RANGE, those of its RANGE");
    Cachefront x = Talk.ready();
    Talk.told(x, "GET /0, range=2-5");
    String[] had = {"2-5", "2-2", "5-5", "3-4", "8-", "8-9", "900-901"};
    for (String range : had) {
      CHECK.same(range, would(x, "GET /0, range=" + range), 0);
      CHECK.same("with IF_RANGE all are", would(x, "GET /0, range=" + range + ", if-range=12000"), 1);
      CHECK.same("of HEAD all are", would(x, "HEAD /0, range=" + range), 1);
    }
    for (String range : new String[] {"1-5", "2-6", "0-0", "6-6", "5-6", "1-2", "2-", "-1", "-8", "-9", "-900", "0-900"}) {
      CHECK.same(range, would(x, "GET /0, range=" + range), 1);
    }
    CHECK.same("all", would(x, "GET /0"), 1);
    CHECK.same("IF_RANGE alone", would(x, "GET /0, if-range=12000"), 1);
    Talk.told(x, "GET /0, range=6-");
    for (String range : new String[] {"2-", "-6", "-1", "2-900", "7-7", "7-8"}) {
      CHECK.same(range, would(x, "GET /0, range=" + range), 0);
    }
    CHECK.same("-7", would(x, "GET /0, range=-7"), 1);
  }

  /** An ENTRY of that MAX_AGE, as old as that. */
  private static Cachefront aged(int maxAge, int age) {
    Cachefront x = Talk.ready();
    x.policy(0, maxAge, -1, -1, 0);
    x.get(0, 0, 0);
    x.goBy(age);
    return x;
  }

  private static void wantsAge() {
    CHECK.part("6 its AGE is not above WANTS_AGE (if that is there)");
    for (int age = 2; age <= 5; age++) {
      Cachefront x = aged(600, age);
      for (int wantsAge : new int[] {0, 1, 2, 3, 4, 5, 600}) {
        CHECK.same("AGE " + age + " of " + wantsAge, would(x, "GET /0, max-age=" + wantsAge), age <= wantsAge ? 0 : 1);
      }
      Cachefront y = aged(2, age);
      for (int wantsAge : new int[] {1, 2, 3, 4, 5, 600}) {
        String text = "GET /0, max-age=" + wantsAge + ", max-stale=600";
        CHECK.same("STALE, AGE " + age + " of " + wantsAge, would(y, text), age <= wantsAge ? 3 : 1);
      }
    }
  }

  private static void wantsFresh() {
    CHECK.part("6 FRESHNESS - AGE is not below WANTS_FRESH (if that is there); STALE: WANTS_FRESH is not there");
    Cachefront x = aged(10, 4);
    for (int wantsFresh : new int[] {0, 1, 5, 6, 7, 600}) {
      CHECK.same("6 of " + wantsFresh, would(x, "GET /0, min-fresh=" + wantsFresh), wantsFresh <= 6 ? 0 : 1);
    }
    x.goBy(5);
    CHECK.same("FRESH by 1", would(x, "GET /0, min-fresh=0"), 0);
    CHECK.same("FRESH by 1", would(x, "GET /0, min-fresh=1"), 0);
    CHECK.same("FRESH by 1", would(x, "GET /0, min-fresh=2"), 1);
    CHECK.same("LETS_STALE does not help", would(x, "GET /0, max-stale=600, min-fresh=2"), 1);
    x.goBy(1);
    CHECK.same("STALE by 0", would(x, "GET /0, max-stale=600"), 3);
    CHECK.same("STALE by 0, though 0 is WANTED", would(x, "GET /0, max-stale=600, min-fresh=0"), 1);
  }

  private static void letsStale() {
    CHECK.part("6 STALE by no more than LETS_STALE (if that is there)");
    for (int age = 4; age <= 8; age++) {
      Cachefront x = aged(4, age);
      CHECK.same("not there", would(x, "GET /0"), 1);
      for (int letsStale : new int[] {0, 1, 2, 3, 4, 5, 600}) {
        CHECK.same((age - 4) + " of " + letsStale, would(x, "GET /0, max-stale=" + letsStale), age - 4 <= letsStale ? 3 : 1);
      }
    }
    Cachefront x = aged(0, 2);
    CHECK.same("never FRESH", would(x, "GET /0, max-stale=1"), 1);
    CHECK.same("never FRESH", would(x, "GET /0, max-stale=2"), 3);
    Cachefront y = aged(5, 4);
    CHECK.same("FRESH needs no leave", would(y, "GET /0, max-stale=0"), 0);
  }

  private static void staleWhile() {
    CHECK.part("6 or by less than STALE_WHILE");
    for (int staleWhile : new int[] {0, 1, 2, 3, 60}) {
      for (int age = 4; age <= 7; age++) {
        Cachefront x = Talk.ready();
        x.policy(0, 4, -1, -1, 0);
        x.stale(0, staleWhile, 0);
        x.get(0, 0, 0);
        x.goBy(age);
        boolean isSo = age - 4 < staleWhile;
        CHECK.same((age - 4) + " of " + staleWhile, would(x, "GET /0"), isSo ? 4 : 1);
        CHECK.same("LETS_STALE goes ahead", would(x, "GET /0, max-stale=" + (age - 4)), 3);
        if (age > 4) {
          CHECK.same("LETS_STALE is too small", would(x, "GET /0, max-stale=" + (age - 5)), isSo ? 4 : 1);
        }
        CHECK.same("WANTS_FRESH", would(x, "GET /0, min-fresh=0"), 1);
        CHECK.same("WANTS_AGE", would(x, "GET /0, max-age=" + (age - 1)), 1);
        CHECK.same("WANTS_AGE", would(x, "GET /0, max-age=" + age), isSo ? 4 : 1);
      }
    }
    Cachefront x = Talk.ready();
    x.policy(0, 4, -1, -1, 0);
    x.stale(0, 60, 0);
    x.get(0, 0, 0);
    x.goBy(4);
    x.stale(0, 0, 0);
    CHECK.same("of the ENTRY, not of the PATH as it is now", would(x, "GET /0"), 4);
  }

  private static void strict() {
    CHECK.part("5 STRICT, if its FLAGS have MUST, or SHARED_AGE is not NONE");
    for (int flags : new int[] {0, 8}) {
      for (int sharedAge : new int[] {-1, 0, 2}) {
        Cachefront x = Talk.ready();
        x.policy(0, 2, sharedAge, -1, flags);
        x.stale(0, 60, 60);
        x.get(0, 0, 0);
        x.goBy(2);
        boolean isStrict = flags == 8 || sharedAge != -1;
        CHECK.same("STALE_WHILE", would(x, "GET /0"), isStrict ? 1 : 4);
        CHECK.same("LETS_STALE", would(x, "GET /0, max-stale=600"), isStrict ? 1 : 3);
        x.weigh(2, 0);
        CHECK.same("STALE_IF", Talk.atOnce(x, "GET /0, no-cache"), "503 fault");
        CHECK.same("STALE_IF", Talk.atOnce(x, "GET /0, max-age=1").substring(0, 3), "503");
        if (isStrict) {
          CHECK.same("STALE_IF", Talk.atOnce(x, "GET /0"), "503 fault");
        }
      }
      Cachefront y = Talk.ready();
      y.policy(0, -1, 3, -1, flags);
      y.get(0, 0, 0);
      y.goBy(2);
      CHECK.same("as long as it is FRESH that is nothing", would(y, "GET /0"), 0);
    }
  }

  private static void noCache() {
    CHECK.part("6 neither the wishes nor FLAGS of E have NO_CACHE");
    for (int flags = 0; flags <= 15; flags++) {
      if ((flags & 5) == 0) {
        Cachefront x = Talk.ready();
        x.policy(0, 600, -1, -1, flags);
        x.get(0, 0, 0);
        x.goBy(2);
        CHECK.same("FLAGS " + flags, would(x, "GET /0"), (flags & 2) != 0 ? 1 : 0);
        CHECK.same("FLAGS " + flags, would(x, "GET /0, max-stale=600"), (flags & 2) != 0 ? 1 : 0);
        CHECK.same("the wish", would(x, "GET /0, no-cache"), 1);
        CHECK.same("the wish", would(x, "GET /0, max-stale=600, no-cache, only-if-cached"), 7);
      }
    }
  }

  private static void inTheBackground() {
    CHECK.part("6 with 4 a FETCH for this REQUEST's LANG and CODING begins, if there is no JOINABLE one");
    Cachefront x = Talk.ready();
    x.policy(0, 0, -1, -1, 0);
    x.stale(0, 60, 0);
    x.get(0, 0, 0);
    x.goBy(2);
    CHECK.same("TOLD at once", Talk.atOnce(x, "GET /0, lang=1"), "200 stale while, age=2, tag=12000 dkryfmta");
    CHECK.same("VALIDATE", Talk.lastFetch(x), "GET /0, lang=1, if-none-match=12000");
    CHECK.same("VALIDATE", x.ofFetch(1, 0), 1);
    CHECK.same("of no REQUEST", x.ofFetch(1, 7), -1);
    Talk.send(x, "HEAD /0, lang=1, coding=1");
    CHECK.same("another CODING", Talk.lastFetch(x), "GET /0, lang=1, coding=1, if-none-match=12000");
    Talk.send(x, "GET /0, lang=1, range=0-1");
    Talk.send(x, "GET /0, lang=1, coding=1");
    CHECK.same("one of each is enough", x.house(3), 3);
    CHECK.same("none WAITS", x.waiting(), "");
    Talk.send(x, "GET /0");
    CHECK.same("another LANG", Talk.lastFetch(x), "GET /0, if-none-match=12000");
    x.goBy(2);
    CHECK.same("all are over", x.underWay(), "");
    Talk.send(x, "GET /0");
    CHECK.same("one that is over is not JOINABLE", x.house(3), 5);
    x.goBy(2);
    x.weigh(2, 0);
    CHECK.same("without an ORIGIN", Talk.atOnce(x, "GET /0"), "200 stale while, age=2, tag=12000 dkryfmta");
    CHECK.same("it ends at once", x.ofFetch(5, 10), 503);
    CHECK.same("not under way", x.underWay(), "");
    besidesPart();
    ofEachLang();
  }

  /** One in the background for each LANG and CODING, in whatever order they come. */
  private static void ofEachLang() {
    int[][] all = {{1, 1}, {1, 0}, {0, 1}, {2, 1}, {0, 0}, {2, 0}};
    Cachefront x = Talk.ready();
    x.policy(0, 0, -1, -1, 0);
    x.stale(0, 60, 0);
    x.get(0, 0, 0);
    x.goBy(2);
    for (int i = 0; i < all.length; i++) {
      int id = x.get(0, all[i][0], all[i][1]);
      CHECK.same("stale while", x.ofAnswer(id, 1), 4);
      CHECK.same("a FETCH of its own", x.house(3), 2 + i);
      CHECK.same("LANG", x.ofFetch(1 + i, 2), all[i][0]);
      CHECK.same("CODING", x.ofFetch(1 + i, 3), all[i][1]);
    }
    for (int[] one : all) {
      x.get(0, one[0], one[1]);
    }
    CHECK.same("one of each is enough", x.house(3), 7);
  }

  /** A PART is under way: that is not JOINABLE. */
  private static void besidesPart() {
    Cachefront x = Talk.ready();
    x.policy(0, 5, -1, -1, 0);
    x.stale(0, 60, 0);
    Talk.told(x, "GET /0, range=0-3");
    x.goBy(2);
    x.delay(2, 5);
    Talk.send(x, "GET /0, range=3-4");
    CHECK.same("a PART", x.ofFetch(1, 0), 2);
    x.goBy(1);
    CHECK.same("stale while", Talk.atOnce(x, "GET /0, range=0-0"), "206 stale while, age=5, tag=12000, range=0-0/8 d");
    CHECK.same("VALIDATE", x.ofFetch(2, 0), 1);
    CHECK.same("for all", Talk.lastFetch(x), "GET /0, if-none-match=12000");
  }

  private static void onlyKept() {
    CHECK.part("6 with the wish ONLY_KEPT: TOLD, 504, HOW 7");
    Cachefront x = Talk.ready();
    x.policy(0, 5, -1, -1, 0);
    CHECK.same("nothing is there", Talk.atOnce(x, "GET /0, only-if-cached"), "504 not kept");
    CHECK.same("no FETCH", x.house(3), 0);
    Talk.send(x, "GET /0");
    CHECK.same("though one could WAIT", Talk.atOnce(x, "HEAD /0, only-if-cached"), "504 not kept");
    x.goBy(4);
    CHECK.same("FRESH", Talk.atOnce(x, "GET /0, only-if-cached"), "200 hit, age=4, tag=12000 dkryfmta");
    x.goBy(1);
    CHECK.same("STALE", Talk.atOnce(x, "GET /0, only-if-cached"), "504 not kept");
    CHECK.same("let", Talk.atOnce(x, "GET /0, max-stale=0, only-if-cached"), "200 let stale, age=5, tag=12000 dkryfmta");
    CHECK.same("counted", x.house(16), 3);
    CHECK.same("ORIGIN", x.ofAnswer(0, 13), -1);
    CHECK.same("TOLD at", x.ofAnswer(0, 11), 0);
  }

  private static void joinable() {
    CHECK.part("6 JOINABLE: under way, WHOLE or VALIDATE (in the background, too), of the same PATH, LANG and CODING");
    for (int kind = 0; kind < 4; kind++) {
      Cachefront x = Talk.ready();
      x.policy(0, 0, -1, -1, 0);
      x.write(1, 4, 3, 0);
      if (kind % 2 == 1) {
        Talk.told(x, "GET /0, lang=1, coding=1");
      }
      int fetch = x.house(3);
      if (kind < 2) {
        x.get(0, 1, 1);
      } else {
        x.warm(0, 1, 1);
      }
      CHECK.same("WHOLE or VALIDATE", x.ofFetch(fetch, 0), kind % 2);
      for (String text : new String[] {"GET /0, lang=1, coding=1", "HEAD /0, lang=1, coding=1",
          "GET /0, lang=1, coding=1, range=0-1", "GET /0, lang=1, coding=1, no-cache",
          "GET /0, lang=1, coding=1, if-none-match=*"}) {
        CHECK.same("kind " + kind + " " + text, would(x, text), 2);
      }
      for (String text : new String[] {"GET /0, coding=1", "GET /0, lang=1", "GET /0, lang=2, coding=1", "GET /0",
          "GET /1, lang=1, coding=1"}) {
        CHECK.same("kind " + kind + " " + text, would(x, text), 1);
      }
      CHECK.same("REFUSED", x.warm(0, 1, 1), -9);
      int other = x.warm(0, 1, 0);
      CHECK.same("another CODING", other, fetch + 1);
      CHECK.same("another LANG", x.warm(0, 0, 1), fetch + 2);
      CHECK.same("another PATH", x.warm(1, 1, 1), fetch + 3);
      int id = Talk.send(x, "GET /0, lang=1, coding=1");
      CHECK.same("it WAITS", x.ofFetch(fetch, 8), 1);
      CHECK.same("not for another one", x.ofFetch(other, 8), 0);
      x.goBy(1);
      CHECK.same("still", would(x, "GET /0, lang=1, coding=1"), 2);
      x.goBy(1);
      CHECK.same("no longer", x.ofFetch(fetch, 8), 0);
      CHECK.same("looked at again", x.isTold(id), false);
    }
  }

  private static void notJoinable() {
    CHECK.part("6 a PART or a PASS is not JOINABLE");
    Cachefront x = Talk.ready();
    Talk.send(x, "GET /0, range=0-1");
    CHECK.same("a PART", x.ofFetch(0, 0), 2);
    CHECK.same("the same once more", would(x, "GET /0, range=0-1"), 1);
    CHECK.same("all", would(x, "GET /0"), 1);
    Talk.send(x, "GET /0, no-store");
    CHECK.same("a PASS", x.ofFetch(1, 0), 3);
    CHECK.same("all", would(x, "GET /0"), 1);
    Talk.send(x, "GET /0, range=0-1");
    CHECK.same("each has its own", x.underWay(), "0 1 2");
    CHECK.same("in the background", x.warm(0, 0, 0), 3);
    CHECK.same("now there is one", would(x, "GET /0, range=0-1"), 2);
    Cachefront y = Talk.ready();
    Talk.told(y, "GET /0, range=0-1");
    Talk.send(y, "GET /0, range=1-2");
    CHECK.same("a PART with IF_RANGE", y.ofFetch(1, 0), 2);
    CHECK.same("is none", would(y, "GET /0, range=1-2"), 1);
    CHECK.same("details", y.ofAnswer(1, 5), -1);
    y.settle(9);
    CHECK.same("LAST", y.ofAnswer(1, 5), 0);
    CHECK.same("no LAST", y.ofAnswer(Talk.send(y, "GET /9, only-if-cached"), 5), NEVER);
  }
}
