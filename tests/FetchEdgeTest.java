/** The boundary cases of section 6, sentence by sentence: which FETCH begins, its TRIES, how it ends. */
public final class FetchEdgeTest {
  private static final Check CHECK = new Check();

  public static void main(String[] args) {
    validateByTag();
    validateByDate();
    validateParts();
    partOfGap();
    partWithoutRow();
    partOfFreshOnes();
    partByRange();
    whole();
    numbered();
    threeTries();
    fewerOrigins();
    otherMethods();
    faultByLastTry();
    noTryAtAll();
    endedBy200();
    endedBy304();
    endedBy206();
    endedBy404();
    endedBy416();
    lookedAtAgain();
    faultOfWaiters();
    staleIf();
    passesForget();
    CHECK.end();
  }

  private static void validateByTag() {
    CHECK.part("6 VALIDATE: a GET for all, with IF_NONE of TAG, if E has one");
    for (int sort = 2; sort <= 3; sort++) {
      for (String text : new String[] {"GET /0, lang=2, coding=1, no-cache", "HEAD /0, lang=2, coding=1, max-age=0",
          "GET /0, lang=2, coding=1, no-cache, range=2-3", "GET /0, lang=2, coding=1, no-cache, if-none-match=5",
          "GET /0, lang=2, coding=1, no-cache, if-modified-since=5", "GET /0, lang=2, coding=1, no-cache, range=9-",
          "GET /0, lang=2, coding=1, no-cache, range=0-0, if-range=5"}) {
        Cachefront x = Talk.ready();
        x.goBy(5);
        x.write(0, 8, sort, 3);
        Talk.told(x, "GET /0, lang=2, coding=1");
        Talk.send(x, text);
        CHECK.same("VALIDATE", x.ofFetch(1, 0), 1);
        int tag = sort == 3 ? 24010 : 24011;
        CHECK.same(text, Talk.lastFetch(x), "GET /0, lang=2, coding=1, if-none-match=" + tag);
      }
    }
  }

  private static void validateByDate() {
    CHECK.part("6 otherwise, if LAST is neither NEVER nor as late as SENT or later, with IF_SINCE of LAST");
    for (int written = 3; written <= 6; written++) {
      Cachefront x = Talk.alone();
      x.delay(2, 2);
      x.goBy(3);
      for (int now = 3; now <= 9; now++) {
        if (now == written) {
          x.write(0, 8, 1, 0);
        }
        if (now == 5) {
          x.get(0, 0, 0);
        }
        x.goBy(1);
      }
      x.settle(9);
      CHECK.same("LAST", x.ofEntry(0, 7), written);
      CHECK.same("SENT", x.ofEntry(0, 11), 5);
      Talk.send(x, "GET /0, no-cache");
      CHECK.same("VALIDATE", x.ofFetch(1, 0), 1);
      CHECK.same("written at " + written, Talk.lastFetch(x), written < 5 ? "GET /0, if-modified-since=" + written : "GET /0");
    }
    Cachefront x = Talk.alone();
    x.write(0, 8, 0, 0);
    x.goBy(5);
    Talk.told(x, "GET /0");
    Talk.send(x, "GET /0, no-cache");
    CHECK.same("LAST is NEVER", Talk.lastFetch(x), "GET /0");
    CHECK.same("VALIDATE", x.ofFetch(1, 0), 1);
    x.settle(9);
    CHECK.same("200", x.ofFetch(1, 10), 200);
    CHECK.same("HOW 1", x.answerText(1), "200 fetched, age=2");
    Cachefront y = Talk.alone();
    y.write(0, 8, 1, 0);
    y.goBy(5);
    Talk.told(y, "GET /0");
    y.offset(2, -50);
    for (int i = 0; i < 2; i++) {
      Talk.told(y, "GET /0, no-cache");
      CHECK.same("LAST of the 304", Talk.lastFetch(y), "GET /0, if-modified-since=0");
      CHECK.same("304", y.ofFetch(1 + i, 10), 304);
    }
    CHECK.same("DATE is no matter", y.ofEntry(0, 6), -40);
  }

  private static void validateParts() {
    CHECK.part("6 VALIDATE, if E has all that is WANTED");
    Cachefront x = Talk.ready();
    x.policy(0, 2, -1, -1, 0);
    Talk.told(x, "GET /0, range=2-5");
    Talk.send(x, "GET /0, range=3-4");
    CHECK.same("a part of a part", Talk.lastFetch(x), "GET /0, if-none-match=12000");
    x.settle(9);
    CHECK.same("still a part", x.entryBody(0), ".." + x.body(0, 0, 0).substring(2, 6) + "..");
    CHECK.same("TOLD", Talk.answer(x, 1), "206 validated, age=2, tag=12000, range=3-4/8 " + x.body(0, 0, 0).substring(3, 5));
    CHECK.same("for a PATH in the background, too", x.warm(0, 0, 0), 2);
    CHECK.same("VALIDATE", x.ofFetch(2, 0), 1);
    CHECK.same("for all", Talk.lastFetch(x), "GET /0, if-none-match=12000");
    x.touch(0);
    x.goBy(2);
    CHECK.same("all came", x.entryBody(0), x.body(0, 0, 0));
  }

  /** An ENTRY that is FRESH for long and has these places. */
  private static Cachefront held(String... ranges) {
    Cachefront x = Talk.ready();
    for (String range : ranges) {
      Talk.send(x, "GET /0, range=" + range);
    }
    x.settle(9);
    return x;
  }

  private static void gap(Cachefront x, String text, String range) {
    Talk.send(x, text);
    int fetch = x.house(3) - 1;
    CHECK.same("PART", x.ofFetch(fetch, 0), 2);
    CHECK.same(text, x.fetchText(fetch), "GET /0, range=" + range + ", if-range=12000");
    int id = x.house(1) - 1;
    x.settle(9);
    CHECK.same("206", x.ofFetch(fetch, 10), 206);
    CHECK.same("HOW 1", x.ofAnswer(id, 1), 1);
    String body = x.body(0, 0, 0);
    int first = x.ofAnswer(id, 8);
    String due = x.ofAnswer(id, 0) == 206 ? body.substring(first, x.ofAnswer(id, 9) + 1) : body;
    CHECK.same("TOLD", x.answerBody(id), text.startsWith("HEAD") ? "" : due);
  }

  private static void partOfGap() {
    CHECK.part("6 PART: what is WANTED and is not HELD are places that follow each other");
    gap(held("0-6"), "GET /0", "7-7");
    gap(held("1-7"), "GET /0", "0-0");
    gap(held("0-0"), "GET /0", "1-7");
    gap(held("7-7"), "GET /0", "0-6");
    gap(held("0-2", "5-7"), "GET /0", "3-4");
    gap(held("0-2", "4-7"), "HEAD /0", "3-3");
    gap(held("2-3"), "GET /0, range=0-3", "0-1");
    gap(held("2-3"), "GET /0, range=3-5", "4-5");
    gap(held("2-3"), "GET /0, range=5-6", "5-6");
    gap(held("2-3"), "GET /0, range=-1", "7-7");
    gap(held("2-3"), "GET /0, range=0-0", "0-0");
    gap(held("2-3"), "GET /0, range=1-1", "1-1");
    gap(held("2-3"), "GET /0, range=4-900", "4-7");
    gap(held("0-3"), "GET /0, range=-900", "4-7");
    gap(held("4-7"), "GET /0, range=0-", "0-3");
  }

  private static void begins(Cachefront x, String text, int kind, String asked) {
    int fetch = x.house(3);
    Talk.send(x, text);
    CHECK.same("one FETCH for " + text, x.house(3), fetch + 1);
    CHECK.same("what it is for " + text, x.ofFetch(fetch, 0), kind);
    CHECK.same("what is asked for " + text, x.fetchText(fetch), asked);
    CHECK.same("the REQUEST", x.ofFetch(fetch, 7), x.house(1) - 1);
  }

  private static void partWithoutRow() {
    CHECK.part("6 (a row without gaps)");
    begins(held("2-3"), "GET /0", 0, "GET /0");
    begins(held("2-3"), "HEAD /0", 0, "GET /0");
    begins(held("2-3"), "GET /0, range=1-4", 2, "GET /0, range=1-4");
    begins(held("2-3"), "GET /0, range=-900", 2, "GET /0, range=-900");
    begins(held("2-3"), "GET /0, range=0-900", 2, "GET /0, range=0-900");
    begins(held("2-3"), "GET /0, range=1-4, if-range=12000", 0, "GET /0");
    begins(held("0-5"), "GET /0, range=1-4, if-range=5", 2, "GET /0, range=6-7, if-range=12000");
    begins(held("0-1", "3-4", "6-7"), "GET /0", 0, "GET /0");
    begins(held("0-1", "3-4", "6-7"), "GET /0, range=1-3", 2, "GET /0, range=2-2, if-range=12000");
    begins(held("0-1", "3-4", "6-7"), "GET /0, range=3-", 2, "GET /0, range=5-5, if-range=12000");
    begins(held("0-1", "3-4", "6-7"), "GET /0, range=1-6", 2, "GET /0, range=1-6");
  }

  private static void partOfFreshOnes() {
    CHECK.part("6 PART, if E has a strong TAG, is FRESH, its FLAGS have no NO_CACHE, neither have the wishes");
    for (int flags : new int[] {0, 2, 8}) {
      for (int age = 4; age <= 6; age++) {
        for (String wish : new String[] {"", ", no-cache", ", max-age=1", ", min-fresh=600", ", max-stale=600"}) {
          boolean isSo = flags != 2 && age < 5 && !wish.equals(", no-cache");
          begins(held(flags, age), "GET /0" + wish, isSo ? 2 : 0, isSo ? "GET /0, range=4-7, if-range=12000" : "GET /0");
          begins(held(flags, age), "GET /0" + wish + ", range=2-5", 2,
              isSo ? "GET /0, range=4-5, if-range=12000" : "GET /0, range=2-5");
        }
      }
    }
  }

  /** Four places HELD of an ENTRY with the MAX_AGE 5 that is so old. */
  private static Cachefront held(int flags, int age) {
    Cachefront x = Talk.ready();
    x.policy(0, 5, -1, -1, flags);
    Talk.told(x, "GET /0, range=0-3");
    x.goBy(age - 2);
    return x;
  }

  private static void partByRange() {
    CHECK.part("6 PART, if it has a RANGE and no IF_RANGE: a GET with its RANGE");
    for (String range : new String[] {"0-0", "2-3", "2-", "-3", "900-901", "0-900"}) {
      begins(Talk.ready(), "GET /0, lang=1, range=" + range, 2, "GET /0, lang=1, range=" + range);
      begins(Talk.ready(), "GET /0, coding=1, size=5, max-age=1, no-cache, if-none-match=*, range=" + range, 2,
          "GET /0, coding=1, range=" + range);
      begins(Talk.ready(), "GET /0, range=" + range + ", if-range=0", 0, "GET /0");
      begins(Talk.ready(), "HEAD /0, range=" + range, 0, "GET /0");
    }
  }

  private static void whole() {
    CHECK.part("6 WHOLE: a plain GET, with the REQUEST's LANG and CODING");
    begins(Talk.ready(), "GET /0", 0, "GET /0");
    begins(Talk.ready(), "HEAD /0, lang=2", 0, "GET /0, lang=2");
    begins(Talk.ready(), "GET /0, lang=1, coding=1, size=40, max-age=0, max-stale=0, min-fresh=0, no-cache, "
        + "if-none-match=*, if-modified-since=5, if-range=0", 0, "GET /0, lang=1, coding=1");
    Cachefront x = Talk.ready();
    CHECK.same("in the background", x.warm(0, 2, 1), 0);
    CHECK.same("WHOLE", x.ofFetch(0, 0), 0);
    CHECK.same("plain", x.fetchText(0), "GET /0, lang=2, coding=1");
    CHECK.same("for no REQUEST", x.ofFetch(0, 7), -1);
    ofEachKey();
  }

  /** All of PATH, LANG and CODING, asked for with and without an ENTRY. */
  private static void ofEachKey() {
    for (int lang = 0; lang <= 2; lang++) {
      for (int coding = 0; coding <= 1; coding++) {
        Cachefront x = Talk.alone();
        x.write(11, 5, 3, 3);
        x.stale(11, 0, 60);
        String of = (lang == 0 ? "" : ", lang=" + lang) + (coding == 0 ? "" : ", coding=" + coding);
        int tag = 12000 + 2 * (lang + 3 * coding);
        CHECK.same("WHOLE", x.warm(11, lang, coding), 0);
        CHECK.same("plain", x.fetchText(0), "GET /11" + of);
        CHECK.same("PATH", x.ofFetch(0, 1), 11);
        CHECK.same("LANG", x.ofFetch(0, 2), lang);
        CHECK.same("CODING", x.ofFetch(0, 3), coding);
        x.goBy(2);
        CHECK.same("VALIDATE", x.warm(11, lang, coding), 1);
        CHECK.same("by the TAG of its ENTRY", x.fetchText(1), "GET /11" + of + ", if-none-match=" + tag);
        x.goBy(2);
        x.weigh(2, 0);
        CHECK.same("a FAULT is told from its ENTRY", Talk.atOnce(x, "GET /11" + of),
            "200 stale if, age=2, tag=" + tag + " " + x.body(11, lang, coding));
        x.weigh(2, 2);
        x.flush();
        x.policy(11, 600, -1, -1, 0);
        Talk.send(x, "GET /11" + of + ", range=0-1");
        Talk.send(x, "GET /11" + of + ", range=3-4");
        x.settle(9);
        String body = x.body(11, lang, coding);
        CHECK.same("parts are put together", x.entryBody(0), body.substring(0, 2) + "." + body.substring(3));
        CHECK.same("one ENTRY", x.entries(), 1);
      }
    }
  }

  private static void numbered() {
    CHECK.part("6 a FETCH is numbered from 0 on");
    Cachefront x = Talk.ready();
    Talk.send(x, "GET /0");
    Talk.send(x, "GET /0");
    CHECK.same("who WAITS begins none", x.house(3), 1);
    x.settle(9);
    Talk.send(x, "GET /0");
    CHECK.same("a hit begins none", x.house(3), 1);
    Talk.send(x, "GET /1, only-if-cached");
    CHECK.same("who lets none begin", x.house(3), 1);
    CHECK.same("the next one", x.warm(1, 0, 0), 1);
    CHECK.same("REFUSED begins none", x.warm(1, 0, 0), -9);
    Talk.send(x, "POST /0");
    CHECK.same("a PASS", x.house(3), 3);
    x.weigh(2, 0);
    Talk.send(x, "GET /3");
    CHECK.same("one that ends at once counts, too", x.house(3), 4);
    CHECK.same("under way", x.underWay(), "1 2");
    CHECK.same("under way", x.house(4), 2);
  }

  /** The WEIGHT 2 for all; the ORDER of PATH 0 is 4 2 3 1 0 then. */
  private static Cachefront five(int... moods) {
    Cachefront x = new Cachefront();
    int[] order = {4, 2, 3, 1, 0};
    for (int i = 0; i < 5; i++) {
      x.weigh(order[i], 2);
      x.mood(order[i], i < moods.length ? moods[i] : 0);
    }
    x.write(0, 8, 3, 0);
    return x;
  }

  private static void threeTries() {
    CHECK.part("6 if it made fewer than 3 TRIES");
    int[][] moods = {{0}, {1}, {2}, {1, 1}, {2, 1}, {1, 2}, {2, 2}, {1, 1, 1}, {1, 1, 2}, {2, 2, 1}, {2, 2, 2}, {1, 2, 1}};
    int[] ticks = {2, 4, 14, 6, 16, 16, 26, 6, 16, 26, 36, 16};
    int[] order = {4, 2, 3, 1, 0};
    for (int i = 0; i < moods.length; i++) {
      Cachefront x = five(moods[i]);
      x.get(0, 0, 0);
      int fails = moods[i][0] == 0 ? 0 : moods[i].length;
      int tries = Math.min(3, fails + 1);
      CHECK.same("TICKS of " + i, x.settle(120), ticks[i]);
      CHECK.same("TRIES of " + i, x.ofFetch(0, 4), tries);
      CHECK.same("the last one", x.ofFetch(0, 5), order[tries - 1]);
      for (int k = 0; k < 5; k++) {
        CHECK.same("TRIES sent to " + order[k], x.ofOrigin(order[k], 6), k < tries ? 1 : 0);
        CHECK.same("FAILS of " + order[k], x.ofOrigin(order[k], 4), k < fails ? 1 : 0);
      }
      String due = fails < 3 ? "200 fetched, age=2, tag=12000" : moods[i][2] == 1 ? "502 fault" : "504 fault";
      CHECK.same("TOLD " + i, x.answerText(0), due);
      CHECK.same("the ORIGIN that told it", x.ofAnswer(0, 13), fails < 3 ? order[tries - 1] : -1);
    }
  }

  private static void fewerOrigins() {
    CHECK.part("6 the first ORIGIN in ORDER that it has not tried, and there is one");
    for (int origins = 1; origins <= 4; origins++) {
      Cachefront x = five(1, 1, 1, 1, 1);
      int[] order = {4, 2, 3, 1, 0};
      for (int i = origins; i < 5; i++) {
        x.weigh(order[i], 0);
      }
      x.get(0, 0, 0);
      CHECK.same("TICKS", x.settle(120), 2 * Math.min(3, origins));
      CHECK.same("TRIES with " + origins, x.ofFetch(0, 4), Math.min(3, origins));
      CHECK.same("FAULT", x.answerText(0), "502 fault");
    }
    Cachefront x = five(1, 1, 0);
    x.get(0, 0, 0);
    x.weigh(2, 0);
    CHECK.same("one that is off the ring by then", x.settle(120), 4);
    CHECK.same("is not tried", x.ofFetch(0, 5), 3);
    Cachefront y = five(1, 0);
    y.get(0, 0, 0);
    y.weigh(4, 0);
    y.settle(1);
    y.weigh(4, 4);
    CHECK.same("the first one comes back", y.settle(120), 3);
    CHECK.same("it was tried already", y.ofFetch(0, 5), 2);
  }

  private static void otherMethods() {
    CHECK.part("6 has METHOD GET (as the front asks; HEAD in a PASS with conditions as HEAD) or HEAD");
    for (String text : new String[] {"GET /0", "HEAD /0", "GET /0, no-store", "HEAD /0, no-store", "GET /0, if-match=*",
        "HEAD /0, if-match=*", "GET /0, if-unmodified-since=900", "GET /0, range=0-1"}) {
      Cachefront x = five(1, 2);
      CHECK.same(text, Talk.told(x, text).substring(0, 2), "20");
      CHECK.same("TRIES of " + text, x.ofFetch(0, 4), 3);
      CHECK.same("TICKS of " + text, x.house(0), 16);
    }
    for (String text : new String[] {"PUT /0", "POST /0", "DELETE /0", "PUT /0, no-store", "POST /0, if-match=*"}) {
      for (int mood = 1; mood <= 2; mood++) {
        Cachefront x = five(mood);
        CHECK.same(text, Talk.told(x, text), mood == 1 ? "502 fault" : "504 fault");
        CHECK.same("TRIES of " + text, x.ofFetch(0, 4), 1);
        CHECK.same("TICKS of " + text, x.house(0), mood == 1 ? 2 : 12);
        CHECK.same("nothing is done", x.ofPath(0, 3) + x.ofPath(0, 4), 1);
      }
    }
    Cachefront x = five(1, 1);
    x.warm(0, 0, 0);
    x.goBy(6);
    CHECK.same("in the background", x.ofFetch(0, 4), 3);
    CHECK.same("KEPT", x.entries(), 1);
  }

  private static void faultByLastTry() {
    CHECK.part("6 502, if its last TRY was answered by 500; 504, if it was given up");
    int[][] moods = {{1, 2}, {2, 1}};
    for (int[] two : moods) {
      Cachefront x = five(two);
      for (int o : new int[] {3, 1, 0}) {
        x.weigh(o, 0);
      }
      CHECK.same("the last one of two", Talk.told(x, "GET /0"), two[1] == 1 ? "502 fault" : "504 fault");
      CHECK.same("what ended it", x.ofFetch(0, 10), two[1] == 1 ? 502 : 504);
    }
  }

  private static void noTryAtAll() {
    CHECK.part("6 if no TRY can be made, the FETCH ends at once (also as it begins): FAULT 503");
    for (String text : new String[] {"GET /0", "HEAD /0", "PUT /0", "POST /0", "DELETE /0", "GET /0, no-store",
        "GET /0, if-match=*", "GET /0, range=0-1", "GET /0, no-cache"}) {
      Cachefront x = Talk.ready();
      x.goBy(3);
      x.weigh(2, 0);
      CHECK.same(text, Talk.atOnce(x, text), "503 fault");
      int[] due = {0, 0, 0, -1, -1, 0, 0, 0, 503};
      int[] what = {1, 2, 4, 5, 6, 7, 8, 9, 10};
      for (int i = 0; i < what.length; i++) {
        CHECK.same("ofFetch(0, " + what[i] + ")", x.ofFetch(0, what[i]), due[i]);
      }
      CHECK.same("TOLD at", x.ofAnswer(0, 11), 3);
      CHECK.same("none WAITS", x.waiting(), "");
      CHECK.same("none is under way", x.underWay(), "");
    }
    Cachefront x = Talk.alone();
    for (int i = 0; i < 3; i++) {
      x.get(0, 0, 0);
    }
    x.weigh(2, 0);
    x.goBy(2);
    CHECK.same("it told it", x.answerText(0), "404 fetched");
    CHECK.same("looked at again", x.answerText(1), "503 fault");
    CHECK.same("looked at again", x.answerText(2), "503 fault");
    CHECK.same("each had its own", x.house(3), 3);
  }

  private static void endedBy200() {
    CHECK.part("6 200: KEPT, if KEEPABLE; otherwise all ENTRIES that FIT the FETCH's PATH, LANG and CODING go");
    for (int flags : new int[] {0, 1, 4, 5}) {
      Cachefront x = several();
      x.policy(0, 0, -1, -1, flags);
      x.write(0, 5, 3, 0);
      x.warm(0, 1, 0);
      CHECK.same("VALIDATE", x.ofFetch(x.house(3) - 1, 0), 1);
      x.goBy(2);
      CHECK.same("200", x.ofFetch(x.house(3) - 1, 10), 200);
      CHECK.same("with FLAGS " + flags, keys(x), flags == 0 ? "0:110 0:120 0:201 0:200 1:000 0:000" : "0:120 0:201 1:000");
    }
  }

  /** ENTRIES of PATH 0 with VARY 1 (LANG 1 and 2) and VARY 2 (CODING 1 and 0), and one of PATH 1. */
  private static Cachefront several() {
    Cachefront x = Talk.alone();
    x.write(1, 5, 3, 0);
    x.write(0, 5, 3, 1);
    x.warm(0, 1, 0);
    x.goBy(2);
    x.warm(0, 2, 0);
    x.goBy(2);
    x.write(0, 5, 3, 2);
    x.warm(0, 0, 1);
    x.goBy(2);
    x.warm(0, 0, 0);
    x.goBy(2);
    x.warm(1, 0, 0);
    x.goBy(2);
    CHECK.same("PATH, VARY, LANG, CODING", keys(x), "0:110 0:120 0:201 0:200 1:000");
    return x;
  }

  private static String keys(Cachefront x) {
    StringBuilder text = new StringBuilder();
    for (int k = 0; k < x.entries(); k++) {
      text.append(k == 0 ? "" : " ").append(x.ofEntry(k, 0)).append(':');
      text.append(x.ofEntry(k, 1)).append(x.ofEntry(k, 2)).append(x.ofEntry(k, 3));
    }
    return text.toString();
  }

  private static void endedBy304() {
    CHECK.part("6 304: E, as it was when the FETCH began, is KEPT");
    Cachefront x = Talk.ready();
    Talk.told(x, "GET /0");
    String old = x.body(0, 0, 0);
    x.delay(2, 5);
    Talk.send(x, "GET /0, no-cache");
    x.goBy(6);
    x.write(0, 8, 3, 0);
    x.delay(2, 1);
    x.warm(0, 1, 0);
    x.goBy(2);
    CHECK.same("a newer one is there", x.ofEntry(0, 8), 24000);
    x.goBy(2);
    CHECK.same("304", x.ofFetch(1, 10), 304);
    CHECK.same("E is KEPT again", x.ofEntry(0, 8), 12000);
    CHECK.same("in its place", x.entries(), 1);
    CHECK.same("SIGNS", x.entryBody(0), old);
    CHECK.same("GOT", x.ofEntry(0, 12), 12);
    CHECK.same("SENT", x.ofEntry(0, 11), 2);
    CHECK.same("MADE", x.ofEntry(0, 13), 7);
    for (int flags = 0; flags <= 15; flags++) {
      Cachefront y = Talk.ready();
      Talk.told(y, "GET /0");
      y.policy(0, 9, -1, -1, flags);
      Talk.send(y, "GET /0, no-cache");
      y.goBy(2);
      CHECK.same("304", y.ofFetch(1, 10), 304);
      CHECK.same("TOLD from it", y.answerText(1), "200 validated, age=2, tag=12000");
      CHECK.same("its FRESHNESS", y.ofAnswer(1, 3), 9);
      CHECK.same("with FLAGS " + flags, y.entries(), (flags & 5) == 0 ? 1 : 0);
    }
    CHECK.part("6 304: otherwise all ENTRIES that FIT go");
    Cachefront y = several();
    y.policy(0, 0, -1, -1, 4);
    y.warm(0, 2, 0);
    CHECK.same("by the TAG of the one with the greatest GOT", Talk.lastFetch(y), "GET /0, lang=2, if-none-match=24000");
    y.goBy(2);
    CHECK.same("304", y.ofFetch(y.house(3) - 1, 10), 304);
    CHECK.same("those of CODING 1 and LANG 1 stay", keys(y), "0:110 0:201 1:000");
    Cachefront z = Talk.ready();
    Talk.told(z, "GET /0");
    Talk.send(z, "GET /0, no-cache");
    CHECK.same("less ROOM", z.room(17), 1);
    z.goBy(2);
    CHECK.same("COST is above ROOM", z.entries(), 0);
    CHECK.same("TOLD, though it is not KEPT", z.answerText(1), "200 validated, age=2, tag=12000");
    CHECK.same("BODY", z.answerBody(1), z.body(0, 0, 0));
  }

  private static void endedBy206() {
    CHECK.part("6 206: JOINED to E, as it was when the FETCH began, if it was asked for with IF_RANGE");
    for (int flags = 0; flags <= 15; flags++) {
      Cachefront x = held("0-3");
      x.policy(0, 9, -1, -1, flags);
      Talk.send(x, "GET /0, range=2-5");
      CHECK.same("IF_RANGE", Talk.lastFetch(x), "GET /0, range=4-5, if-range=12000");
      x.goBy(2);
      String body = x.body(0, 0, 0);
      CHECK.same("TOLD", Talk.answer(x, 1), "206 fetched, age=2, tag=12000, range=2-5/8 " + body.substring(2, 6));
      CHECK.same("its FRESHNESS", x.ofAnswer(1, 3), 9);
      boolean isSo = (flags & 5) == 0;
      CHECK.same("KEPT, if KEEPABLE (otherwise ENTRIES stay)", x.entryBody(0), body.substring(0, isSo ? 6 : 4) + (isSo ? ".." : "...."));
      CHECK.same("GOT", x.ofEntry(0, 12), isSo ? 4 : 2);
    }
    Cachefront x = held("0-3");
    Talk.send(x, "GET /0");
    x.goBy(1);
    x.flush();
    x.goBy(1);
    CHECK.same("as it was", Talk.answer(x, 1), "200 fetched, age=2, tag=12000 " + x.body(0, 0, 0));
    CHECK.same("KEPT", x.entryBody(0), x.body(0, 0, 0));
    Cachefront y = held("0-3");
    Talk.send(y, "GET /0, no-cache, range=6-7");
    CHECK.same("without IF_RANGE", Talk.lastFetch(y), "GET /0, range=6-7");
    y.goBy(1);
    y.flush();
    y.goBy(1);
    CHECK.same("not JOINED to E", y.entryBody(0), "......" + y.body(0, 0, 0).substring(6));
    CHECK.part("6 206 with IF_RANGE, and the TAG is another one by then: 200");
    Cachefront z = held("0-3");
    z.touch(0);
    Talk.send(z, "GET /0, range=2-5");
    z.goBy(2);
    CHECK.same("200", z.ofFetch(1, 10), 200);
    CHECK.same("of the new one alone", Talk.answer(z, 1), "206 fetched, age=2, tag=12012, range=2-5/8 " + z.body(0, 0, 0).substring(2, 6));
    CHECK.same("KEPT", z.entryBody(0), z.body(0, 0, 0));
    weakParts();
  }

  private static void weakParts() {
    CHECK.part("6 a 206 without a strong TAG: ENTRIES stay");
    for (int sort = 0; sort <= 2; sort++) {
      Cachefront x = held("0-3");
      x.write(0, 8, sort, 0);
      Talk.told(x, "GET /0, no-cache, range=6-7");
      CHECK.same("206", x.ofFetch(1, 10), 206);
      CHECK.same("TOLD", x.answerBody(1), x.body(0, 0, 0).substring(6));
      CHECK.same("the old one stays", x.ofEntry(0, 8), 12000);
      CHECK.same("HELD", x.ofEntry(0, 10), 4);
    }
  }

  private static void endedBy404() {
    CHECK.part("6 404: all ENTRIES that FIT go; told as it is");
    Cachefront x = several();
    x.remove(0);
    int id = Talk.send(x, "HEAD /0, lang=1, coding=1, no-cache");
    x.goBy(2);
    CHECK.same("those that FIT LANG 1 or CODING 1", keys(x), "0:120 0:200 1:000");
    CHECK.same("TOLD", x.answerText(id), "404 fetched");
    CHECK.same("its ORIGIN", x.ofAnswer(id, 13), 2);
    CHECK.same("not for want of ROOM", x.house(8), 0);
    Cachefront y = Talk.ready();
    Talk.told(y, "GET /0");
    y.remove(0);
    Talk.told(y, "GET /0, no-store");
    CHECK.same("of a PASS they stay", y.entries(), 1);
    y.warm(0, 0, 0);
    y.goBy(2);
    CHECK.same("in the background they go", y.entries(), 0);
  }

  private static void endedBy416() {
    CHECK.part("6 416: nothing; told as it is");
    Cachefront x = held("0-3");
    x.write(0, 5, 3, 0);
    Talk.send(x, "GET /0, no-cache, range=6-7");
    CHECK.same("its RANGE", Talk.lastFetch(x), "GET /0, range=6-7");
    x.goBy(2);
    CHECK.same("416", x.ofFetch(1, 10), 416);
    CHECK.same("TOLD", x.answerText(1), "416 fetched");
    CHECK.same("its ORIGIN", x.ofAnswer(1, 13), 2);
    CHECK.same("ENTRIES stay", x.ofEntry(0, 8), 12000);
    CHECK.same("as they were", x.ofEntry(0, 12), 2);
    Talk.send(x, "GET /0, no-cache, if-none-match=*, range=6-7");
    x.goBy(2);
    CHECK.same("as it is, though IF_NONE is any", x.answerText(2), "416 fetched");
  }

  private static void lookedAtAgain() {
    CHECK.part("6 then those that WAIT for this FETCH are looked at again, by their numbers, as if they came NOW");
    Cachefront x = Talk.ready();
    for (String text : new String[] {"GET /0", "GET /0", "GET /0, no-cache", "HEAD /0, no-cache", "GET /0, range=6-",
        "GET /0, range=8-", "GET /0, if-none-match=12000", "GET /0, max-age=1"}) {
      Talk.send(x, text);
    }
    CHECK.same("all WAIT but the first one", x.ofFetch(0, 8), 7);
    x.goBy(2);
    String[] due = {"200 fetched, age=2, tag=12000", "200 hit, age=2, tag=12000", "waits", "waits",
        "206 hit, age=2, tag=12000, range=6-7/8", "416 hit, age=2, tag=12000", "304 hit, age=2, tag=12000", "waits"};
    for (int id = 0; id < due.length; id++) {
      CHECK.same("REQUEST " + id, x.answerText(id), due[id]);
    }
    CHECK.same("the first of those that can not be TOLD", x.ofFetch(1, 7), 2);
    CHECK.same("VALIDATE", x.fetchText(1), "GET /0, if-none-match=12000");
    CHECK.same("the others WAIT for that one", x.ofFetch(1, 8), 2);
    CHECK.same("SENT stays", x.ofAnswer(2, 12), 0);
    x.goBy(2);
    CHECK.same("REQUEST 2", x.answerText(2), "200 validated, age=2, tag=12000");
    CHECK.same("the next one", x.ofFetch(2, 7), 3);
    x.goBy(2);
    CHECK.same("the last one", x.ofFetch(3, 7), 7);
    CHECK.same("it never is young enough, but is TOLD what was fetched for it", x.settle(9), 2);
    CHECK.same("REQUEST 7", x.answerText(7), "200 validated, age=2, tag=12000");
    Cachefront y = Talk.ready();
    y.policy(0, 0, -1, -1, 0);
    y.stale(0, 60, 0);
    Talk.send(y, "GET /0");
    Talk.send(y, "GET /0");
    Talk.send(y, "GET /0");
    y.goBy(2);
    CHECK.same("stale while", y.answerText(1), "200 stale while, age=2, tag=12000");
    CHECK.same("stale while", y.answerText(2), "200 stale while, age=2, tag=12000");
    CHECK.same("one in the background", y.underWay(), "1");
    CHECK.same("SENT in that TICK", y.ofFetch(1, 6), 2);
    waitersInTheBackground();
  }

  /** All that WAIT are looked at again, the first REQUEST ever, too; nobody else is TOLD. */
  private static void waitersInTheBackground() {
    Cachefront x = Talk.ready();
    x.warm(0, 0, 0);
    Talk.send(x, "GET /0");
    Talk.send(x, "HEAD /0");
    Talk.send(x, "GET /0, range=0-0");
    CHECK.same("all WAIT", x.ofFetch(0, 8), 3);
    x.goBy(2);
    CHECK.same("the first one", Talk.answer(x, 0), "200 hit, age=2, tag=12000 " + x.body(0, 0, 0));
    CHECK.same("the second one", x.answerText(1), "200 hit, age=2, tag=12000");
    CHECK.same("the last one", x.answerText(2), "206 hit, age=2, tag=12000, range=0-0/8");
    CHECK.same("one FETCH", x.house(3), 1);
    Cachefront y = Talk.ready();
    y.mood(2, 2);
    y.warm(0, 0, 0);
    for (int i = 0; i < 60; i++) {
      Talk.send(y, i % 2 == 0 ? "GET /0" : "HEAD /0, no-cache");
    }
    CHECK.same("60 WAIT", y.ofFetch(0, 8), 60);
    CHECK.same("given up", y.settle(120), 12);
    for (int id = 0; id < 60; id++) {
      CHECK.same("REQUEST " + id, y.answerText(id), "504 fault");
    }
  }

  private static void faultOfWaiters() {
    CHECK.part("6 a FAULT: first the REQUEST for which it began, then all that WAIT for it, by numbers");
    Cachefront x = Talk.ready();
    x.policy(0, 2, -1, -1, 0);
    x.stale(0, 0, 3);
    Talk.told(x, "GET /0, range=0-5");
    x.mood(2, 1);
    for (String text : new String[] {"GET /0, no-cache", "GET /0", "GET /0, range=2-3", "GET /0, no-cache, range=2-3",
        "GET /0, max-age=9, range=2-3", "GET /0, min-fresh=0, range=2-3", "GET /0, if-none-match=*, range=2-3",
        "GET /0, range=8-", "GET /0, range=5-6", "HEAD /0"}) {
      Talk.send(x, text);
    }
    CHECK.same("nine WAIT", x.ofFetch(1, 8), 9);
    x.goBy(2);
    String[] due = {"502 fault", "502 fault", "206 stale if, age=4, tag=12000, range=2-3/8", "502 fault", "502 fault",
        "502 fault", "304 stale if, age=4, tag=12000", "416 stale if, age=4, tag=12000", "502 fault", "502 fault"};
    for (int i = 0; i < due.length; i++) {
      CHECK.same("REQUEST " + (i + 1), x.answerText(i + 1), due[i]);
      CHECK.same("TOLD at", x.ofAnswer(i + 1, 11), 4);
      CHECK.same("nobody told it", x.ofAnswer(i + 1, 13), -1);
    }
    CHECK.same("no FETCH begins", x.house(3), 2);
    CHECK.same("none WAITS", x.waiting(), "");
  }

  private static void staleIf() {
    CHECK.part("6 is STALE by less than its STALE_IF (or FRESH)");
    for (int staleIf : new int[] {0, 1, 2, 3, 4, 60}) {
      for (int age = 3; age <= 7; age++) {
        Cachefront x = Talk.ready();
        x.policy(0, 4, -1, -1, 0);
        x.stale(0, 0, staleIf);
        Talk.told(x, "GET /0");
        x.goBy(age - 2);
        x.stale(0, 0, 60 - staleIf);
        x.weigh(2, 0);
        String due = age < 4 ? "200 hit, age=3, tag=12000" : age - 4 < staleIf ? "200 stale if, age=" + age + ", tag=12000" : "503 fault";
        int id = x.get(0, 0, 0);
        CHECK.same("AGE " + age + " of " + staleIf, x.answerText(id), due);
      }
    }
    for (int flags : new int[] {0, 2, 8, 10}) {
      Cachefront x = Talk.ready();
      x.policy(0, 0, -1, -1, flags);
      x.stale(0, 0, 60);
      Talk.told(x, "GET /0");
      x.weigh(2, 0);
      CHECK.same("with FLAGS " + flags, Talk.atOnce(x, "GET /0, if-none-match=*"), flags == 0 ? "304 stale if, age=2, tag=12000" : "503 fault");
    }
    Cachefront x = Talk.ready();
    x.policy(0, 0, -1, -1, 0);
    x.stale(0, 0, 60);
    Talk.told(x, "GET /0");
    x.weigh(2, 0);
    for (String text : new String[] {"PUT /0", "GET /0, no-store", "GET /0, if-match=*", "GET /0, if-unmodified-since=0"}) {
      CHECK.same("a PASS: " + text, Talk.atOnce(x, text), "503 fault");
    }
    CHECK.same("ONLY_KEPT asks nobody", Talk.atOnce(x, "GET /0, only-if-cached"), "504 not kept");
    CHECK.same("LETS_STALE too small", Talk.atOnce(x, "GET /0, max-stale=1, range=7-"), "206 stale if, age=2, tag=12000, range=7-7/8 " + x.body(0, 0, 0).substring(7));
  }

  private static void passesForget() {
    CHECK.part("6 if METHOD is PUT, POST or DELETE, and the answer is 200 to 299, all ENTRIES of that PATH go");
    String[] asked = {"PUT /0", "POST /0, lang=2", "DELETE /0, coding=1", "PUT /0, if-match=*", "PUT /0, if-match=5",
        "POST /0, if-unmodified-since=0", "DELETE /0, if-none-match=*", "GET /0, no-store", "HEAD /0, no-store",
        "GET /0, if-match=*", "GET /0, if-match=5", "HEAD /0, if-match=*, if-none-match=*", "GET /0, if-match=*, range=9-",
        "GET /0, no-store, range=0-1", "POST /9", "PUT /9"};
    for (int i = 0; i < asked.length; i++) {
      Cachefront x = several();
      Talk.send(x, asked[i]);
      x.goBy(1);
      CHECK.same("not as it arrives", x.entries(), 5);
      x.goBy(1);
      CHECK.same(asked[i], keys(x), i < 4 ? "1:000" : "0:110 0:120 0:201 0:200 1:000");
    }
    for (int mood = 1; mood <= 2; mood++) {
      Cachefront x = several();
      x.mood(2, mood);
      Talk.told(x, "PUT /0");
      CHECK.same("a FAULT lets them stay", x.entries(), 5);
    }
    Cachefront x = several();
    x.remove(0);
    Talk.told(x, "POST /0");
    Talk.told(x, "DELETE /0");
    CHECK.same("404 lets them stay", x.entries(), 5);
    Talk.told(x, "PUT /0, if-match=*");
    CHECK.same("412 lets them stay", x.entries(), 5);
    CHECK.same("there is one again", Talk.told(x, "PUT /0"), "201 passed");
    CHECK.same("201 lets them go", keys(x), "1:000");
    CHECK.same("not for want of ROOM", x.house(8), 0);
  }
}
