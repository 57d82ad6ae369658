/** The boundary cases of sections 2 and 4, sentence by sentence: DOCUMENTS, and what an ORIGIN tells. */
public final class HouseEdgeTest {
  private static final Check CHECK = new Check();

  public static void main(String[] args) {
    signs();
    lengths();
    capitals();
    versions();
    variants();
    tags();
    dates();
    policyStays();
    theOneBefore();
    atThatMoment();
    doesNothing();
    withoutDocument();
    ifMatch();
    ifUnchanged();
    ifNone();
    ifSince();
    rangesOfOrigins();
    puts();
    postsAndDeletes();
    CHECK.end();
  }

  private static void signs() {
    CHECK.part("2 the letter of number (7 * i + 3 * VERSION + 5 * PATH + 11 * VARIANT) modulo 26");
    Cachefront x = new Cachefront();
    x.write(0, 8, 3, 3);
    // 3, 10, 17, 24, then 31 - 26, 12, 19, 26 - 26
    CHECK.same("around the end of the letters", x.body(0, 0, 0), "dkryfmta");
    CHECK.same("VARIANT 1: 11 more", x.body(0, 1, 0), "ovcjqxel");
    CHECK.same("VARIANT 2: 22 more", x.body(0, 2, 0), "zgnubipw");
    CHECK.same("VARIANT 3: 33 - 26 more", x.body(0, 0, 1), "kryfmtah");
    CHECK.same("VARIANT 5: 55 - 52 more", x.body(0, 2, 1), "gnubipwd");
    x.write(11, 2, 0, 0);
    CHECK.same("PATH 11: 55 more", x.body(11, 0, 0), "gn");
    for (int version = 2; version <= 9; version++) {
      x.write(0, 1, 3, 0);
      CHECK.same("VERSION " + version, x.body(0, 0, 0), "" + (char) ('a' + 3 * version % 26));
    }
  }

  private static void lengths() {
    CHECK.part("2 a LENGTH (0 to 40); \"-\" without a DOCUMENT");
    Cachefront x = new Cachefront();
    CHECK.same("none", x.body(0, 0, 0), "-");
    x.write(0, 0, 3, 0);
    CHECK.same("an empty one", x.body(0, 0, 0), "");
    CHECK.same("its TAG", x.tag(0, 0, 0), 12000);
    x.touch(0);
    CHECK.same("an empty one that was touched", x.body(0, 0, 0), "");
    x.write(0, 40, 3, 0);
    CHECK.same("the longest one", x.body(0, 0, 0).length(), 40);
    x.remove(0);
    CHECK.same("none again", x.body(0, 0, 0), "-");
  }

  private static void capitals() {
    CHECK.part("2 a capital, if i is below TOUCH modulo (LENGTH + 1)");
    Cachefront x = new Cachefront();
    x.write(0, 3, 3, 0);
    String[] due = {"dkr", "Dkr", "DKr", "DKR", "dkr", "Dkr"};
    for (int touch = 0; touch < due.length; touch++) {
      CHECK.same("TOUCH " + touch, x.body(0, 0, 0), due[touch]);
      CHECK.same("of a VARIANT", x.body(0, 2, 1), due[touch]);
      x.touch(0);
    }
    x.write(1, 1, 0, 0);
    x.touch(1);
    CHECK.same("of LENGTH 1", x.body(1, 0, 0), "I");
    x.touch(1);
    CHECK.same("of LENGTH 1", x.body(1, 0, 0), "i");
    x.write(2, 40, 0, 0);
    for (int touch = 0; touch < 40; touch++) {
      x.touch(2);
    }
    CHECK.same("all of 40", x.body(2, 0, 0), x.body(2, 0, 0).toUpperCase());
    x.touch(2);
    CHECK.same("none of 40", x.body(2, 0, 0), x.body(2, 0, 0).toLowerCase());
  }

  private static void versions() {
    CHECK.part("2 1 with the first one ever at that PATH; it goes on when a DOCUMENT is gone in between");
    Cachefront x = Talk.alone();
    CHECK.same("by PUT", Talk.told(x, "PUT /4, size=2"), "201 passed");
    CHECK.same("the first one", x.ofPath(4, 3), 1);
    CHECK.same("by DELETE", Talk.told(x, "DELETE /4"), "204 passed");
    CHECK.same("by write", x.write(4, 2, 3, 0), 2);
    CHECK.same("gone", x.remove(4), 2);
    CHECK.same("REFUSED: gone already", x.remove(4), -9);
    CHECK.same("by PUT", Talk.told(x, "PUT /4, size=2"), "201 passed");
    CHECK.same("goes on", x.ofPath(4, 3), 3);
    x.touch(4);
    CHECK.same("a SMALL change leaves it", x.ofPath(4, 3), 3);
    CHECK.same("TOUCH", x.ofPath(4, 4), 1);
    CHECK.same("by PUT", Talk.told(x, "PUT /4, size=2"), "204 passed");
    CHECK.same("goes on", x.ofPath(4, 3), 4);
    CHECK.same("TOUCH is 0", x.ofPath(4, 4), 0);
    CHECK.same("another PATH", x.write(5, 2, 3, 0), 1);
  }

  private static void variants() {
    CHECK.part("2 the VARIANT: 0 to 5");
    for (int vary = 0; vary <= 3; vary++) {
      Cachefront x = new Cachefront();
      x.write(0, 1, 3, vary);
      for (int lang = 0; lang <= 2; lang++) {
        for (int coding = 0; coding <= 1; coding++) {
          int variant = (vary == 1 || vary == 3 ? lang : 0) + (vary >= 2 ? 3 * coding : 0);
          CHECK.same("of VARY " + vary, x.tag(0, lang, coding), 12000 + 2 * variant);
        }
      }
    }
  }

  private static void tags() {
    CHECK.part("2 TAG of a VARIANT");
    Cachefront x = new Cachefront();
    for (int sort = 0; sort <= 3; sort++) {
      x.write(sort, 2, sort, 3);
      x.touch(sort);
    }
    CHECK.same("NONE of the SORT 0", x.tag(0, 2, 1), -1);
    CHECK.same("NONE of the SORT 1", x.tag(1, 2, 1), -1);
    CHECK.same("weak: without TOUCH", x.tag(2, 2, 1), (6000 + 5) * 2 + 1);
    CHECK.same("strong: with TOUCH", x.tag(3, 2, 1), (1001 * 6 + 5) * 2);
    CHECK.same("NONE without a DOCUMENT", x.tag(4, 2, 1), -1);
  }

  private static void dates() {
    CHECK.part("2 the date of a DOCUMENT: MODIFIED; NEVER of the SORT 0");
    for (int sort = 0; sort <= 3; sort++) {
      Cachefront x = Talk.alone();
      x.write(0, 2, sort, 0);
      CHECK.same("MODIFIED", x.ofPath(0, 5), 0);
      x.goBy(4);
      x.touch(0);
      CHECK.same("MODIFIED", x.ofPath(0, 5), 4);
      x.get(0, 0, 0);
      x.settle(9);
      CHECK.same("LAST of SORT " + sort, x.ofAnswer(0, 5), sort == 0 ? -1000 : 4);
    }
  }

  private static void policyStays() {
    CHECK.part("2 a PATH has a POLICY, whether there is a DOCUMENT or not");
    Cachefront x = new Cachefront();
    x.policy(3, 1, 2, 3, 5);
    x.stale(3, 6, 7);
    String text = "max-age=1, s-maxage=2, expires=3, no-store, private, stale-while=6, stale-if=7";
    CHECK.same("ahead of the first one", x.policyText(3), text);
    x.write(3, 4, 3, 0);
    CHECK.same("with one", x.policyText(3), text);
    x.remove(3);
    CHECK.same("when it is gone", x.policyText(3), text);
    for (int path = 0; path < 12; path++) {
      CHECK.same("of others", x.policyText(path), path == 3 ? text : "");
    }
    x.policy(3, 0, -1, -1, 0);
    CHECK.same("but for STALE_WHILE and STALE_IF", x.policyText(3), "max-age=0, stale-while=6, stale-if=7");
    x.stale(3, 0, 60);
    CHECK.same("but for the others", x.policyText(3), "max-age=0, stale-if=60");
    x.policy(3, -1, 600, 0, 10);
    CHECK.same("but for STALE_WHILE and STALE_IF", x.policyText(3), "s-maxage=600, expires=0, no-cache, must-revalidate, "
        + "stale-if=60");
    int[] flags = {1, 2, 4, 8};
    String[] names = {"no-store", "no-cache", "private", "must-revalidate"};
    for (int i = 0; i < 4; i++) {
      x.policy(4, -1, -1, -1, flags[i]);
      CHECK.same("each of FLAGS", x.policyText(4), names[i]);
    }
  }

  private static void theOneBefore() {
    CHECK.part("4 to 7, 15, 16 the one before");
    for (int i = 0; i < 5; i++) {
      Cachefront x = new Cachefront();
      int first = i < 3 ? 2 : 0;
      CHECK.same("WEIGHT", x.weigh(i, 4), first);
      CHECK.same("WEIGHT", x.weigh(i, 1), 4);
      CHECK.same("WEIGHT", x.weigh(i, 1), 1);
      CHECK.same("OFFSET", x.offset(i, -50), 0);
      CHECK.same("OFFSET", x.offset(i, 7), -50);
      CHECK.same("OFFSET", x.offset(i, 50), 7);
      CHECK.same("DELAY", x.delay(i, 5), 1);
      CHECK.same("DELAY", x.delay(i, 3), 5);
      CHECK.same("DELAY", x.delay(i, 2), 3);
      CHECK.same("MOOD", x.mood(i, 2), 0);
      CHECK.same("MOOD", x.mood(i, 1), 2);
      CHECK.same("MOOD", x.mood(i, 0), 1);
      int[] due = {1, 50, 2, 0};
      for (int what = 0; what < due.length; what++) {
        CHECK.same("ofOrigin(" + i + ", " + what + ")", x.ofOrigin(i, what), due[what]);
      }
      CHECK.same("FLAGS", x.policy(i, 1, 2, 3, 15), 0);
      CHECK.same("FLAGS", x.policy(i, 4, 5, 6, 8), 15);
      CHECK.same("FLAGS", x.policy(i, 7, 9, 10, 11), 8);
      CHECK.same("STALE_WHILE", x.stale(i, 5, 6), 0);
      CHECK.same("STALE_WHILE", x.stale(i, 7, 8), 5);
      CHECK.same("STALE_WHILE", x.stale(i, 60, 59), 7);
      CHECK.same("all of it", x.policyText(i), "max-age=7, s-maxage=9, expires=10, no-store, no-cache, must-revalidate, "
          + "stale-while=60, stale-if=59");
    }
  }

  private static void atThatMoment() {
    CHECK.part("4 it is answered by the house as it is at that moment");
    Cachefront x = Talk.alone();
    x.delay(2, 2);
    x.get(0, 0, 0);
    x.goBy(1);
    x.write(0, 3, 3, 0);
    x.policy(0, 50, -1, -1, 0);
    x.goBy(1);
    x.write(0, 4, 3, 0);
    x.policy(0, 60, -1, -1, 1);
    x.goBy(2);
    CHECK.same("as it was", x.answerText(0), "200 fetched, age=4, tag=12000");
    CHECK.same("POLICY, too", x.ofAnswer(0, 3), 50);
    CHECK.same("KEPT", x.ofEntry(0, 9), 3);
    x.get(1, 0, 0);
    x.goBy(2);
    x.write(1, 3, 3, 0);
    x.goBy(2);
    CHECK.same("there was none", x.answerText(1), "404 fetched");
  }

  private static void doesNothing() {
    CHECK.part("4 FAILING answers 500, SILENT never answers, and does nothing");
    for (int mood = 1; mood <= 2; mood++) {
      for (String asked : new String[] {"PUT /0, size=3", "POST /0", "DELETE /0", "PUT /1"}) {
        Cachefront x = Talk.ready();
        x.goBy(1);
        x.mood(2, mood);
        Talk.send(x, asked);
        x.settle(120);
        CHECK.same(asked, x.answerText(0), mood == 1 ? "502 fault" : "504 fault");
        CHECK.same("TOLD at", x.ofAnswer(0, 11), mood == 1 ? 3 : 13);
        CHECK.same("VERSION", x.ofPath(0, 3), 1);
        CHECK.same("TOUCH", x.ofPath(0, 4), 0);
        CHECK.same("MODIFIED", x.ofPath(0, 5), 0);
        CHECK.same("none", x.ofPath(1, 3), -1);
      }
    }
  }

  /** What an ORIGIN tells of PATH 0. */
  private static void tells(Cachefront x, String asked, int status) {
    int id = Talk.send(x, asked);
    x.settle(120);
    CHECK.same(asked, x.ofAnswer(id, 0), status);
    CHECK.same(asked + " as a PASS", x.ofAnswer(id, 1), 6);
  }

  private static void withoutDocument() {
    CHECK.part("4 without a DOCUMENT");
    String[] conditions = {", if-match=*", ", if-match=12000", ", if-unmodified-since=0",
        ", if-match=*, if-none-match=*", ", if-match=5, if-unmodified-since=900"};
    for (String condition : conditions) {
      for (String method : new String[] {"GET", "HEAD", "POST", "DELETE"}) {
        tells(Talk.alone(), method + " /0" + condition, 404);
      }
      tells(Talk.alone(), "PUT /0" + condition, condition.contains("if-match") ? 412 : 201);
    }
    tells(Talk.alone(), "GET /0, if-match=*, range=0-0", 404);
    tells(Talk.alone(), "PUT /0, if-none-match=*", 201);
    tells(Talk.alone(), "PUT /0, if-none-match=12000", 201);
    tells(Talk.alone(), "PUT /0, if-modified-since=900", 201);
    tells(Talk.alone(), "POST /0, if-none-match=*", 404);
    Cachefront x = Talk.alone();
    tells(x, "PUT /0, if-match=*", 412);
    CHECK.same("still none", x.ofPath(0, 3), -1);
  }

  private static Cachefront sorted(int sort) {
    Cachefront x = Talk.alone();
    x.goBy(5);
    x.write(0, 8, sort, 3);
    return x;
  }

  private static void ifMatch() {
    CHECK.part("4 IF_MATCH: 412, if that is neither any nor a strong TAG that is the same");
    int[] tags = {-1, -1, 12001, 12000};
    for (int sort = 0; sort <= 3; sort++) {
      tells(sorted(sort), "GET /0, if-match=*", 200);
      tells(sorted(sort), "HEAD /0, if-match=*", 200);
      tells(sorted(sort), "PUT /0, if-match=*", 204);
      for (int tag : new int[] {0, 1, 11999, 12000, 12001, 12002, 2147483647}) {
        boolean isSame = sort == 3 && tag == tags[sort];
        tells(sorted(sort), "GET /0, if-match=" + tag, isSame ? 200 : 412);
        tells(sorted(sort), "HEAD /0, if-match=" + tag, isSame ? 200 : 412);
        tells(sorted(sort), "PUT /0, if-match=" + tag, isSame ? 204 : 412);
        tells(sorted(sort), "POST /0, if-match=" + tag, isSame ? 204 : 412);
        tells(sorted(sort), "DELETE /0, if-match=" + tag, isSame ? 204 : 412);
      }
    }
    tells(sorted(3), "GET /0, lang=2, coding=1, if-match=12010", 200);
    tells(sorted(3), "GET /0, lang=2, if-match=12010", 412);
    tells(sorted(3), "GET /0, lang=2, if-match=12004", 200);
    tells(sorted(3), "PUT /0, coding=1, if-match=12006", 204);
  }

  private static void ifUnchanged() {
    CHECK.part("4 without one, IF_UNCHANGED: 412, if its date is NEVER or later than that");
    for (int sort = 0; sort <= 3; sort++) {
      for (int tick : new int[] {-999, -1, 0, 4, 5, 6, 2147483647}) {
        boolean isSo = sort > 0 && tick >= 5;
        tells(sorted(sort), "GET /0, if-unmodified-since=" + tick, isSo ? 200 : 412);
        tells(sorted(sort), "PUT /0, if-unmodified-since=" + tick, isSo ? 204 : 412);
        tells(sorted(sort), "DELETE /0, if-unmodified-since=" + tick, isSo ? 204 : 412);
        tells(sorted(sort), "POST /0, if-match=*, if-unmodified-since=" + tick, 204);
      }
    }
    tells(sorted(3), "PUT /0, if-match=5, if-unmodified-since=900", 412);
  }

  private static void ifNone() {
    CHECK.part("4 IF_NONE that is any or the same TAG: 304 of GET and HEAD, 412 of others");
    for (int sort = 0; sort <= 3; sort++) {
      int same = sort == 3 ? 12000 : sort == 2 ? 12001 : -5;
      for (int tag : new int[] {0, 1, 12000, 12001, 12002}) {
        String condition = " /0, if-match=*, if-none-match=" + tag;
        tells(sorted(sort), "GET" + condition, tag == same ? 304 : 200);
        tells(sorted(sort), "HEAD" + condition, tag == same ? 304 : 200);
        tells(sorted(sort), "PUT" + condition, tag == same ? 412 : 204);
        tells(sorted(sort), "POST" + condition, tag == same ? 412 : 204);
        tells(sorted(sort), "DELETE" + condition, tag == same ? 412 : 204);
      }
      tells(sorted(sort), "GET /0, if-match=*, if-none-match=*", 304);
      tells(sorted(sort), "HEAD /0, if-match=*, if-none-match=*", 304);
      tells(sorted(sort), "PUT /0, if-none-match=*", 412);
      tells(sorted(sort), "POST /0, if-none-match=*", 412);
      tells(sorted(sort), "DELETE /0, if-none-match=*", 412);
    }
    tells(sorted(3), "GET /0, lang=1, if-match=*, if-none-match=12002", 304);
    tells(sorted(3), "GET /0, coding=1, if-match=*, if-none-match=12002", 200);
    tells(sorted(3), "GET /0, if-match=5, if-none-match=12000", 412);
  }

  private static void ifSince() {
    CHECK.part("4 without an IF_NONE, IF_SINCE: 304, if its date is not NEVER and not later than that");
    for (int sort = 0; sort <= 3; sort++) {
      for (int tick : new int[] {-999, -1, 4, 5, 6, 2147483647}) {
        boolean isSo = sort > 0 && tick >= 5;
        String condition = " /0, if-match=*, if-modified-since=" + tick;
        tells(sorted(sort), "GET" + condition, isSo ? 304 : 200);
        tells(sorted(sort), "HEAD" + condition, isSo ? 304 : 200);
        tells(sorted(sort), "PUT" + condition, 204);
        tells(sorted(sort), "POST" + condition, 204);
        tells(sorted(sort), "DELETE" + condition, 204);
        tells(sorted(sort), "GET /0, if-match=*, if-none-match=7, if-modified-since=" + tick, 200);
      }
    }
    tells(sorted(3), "GET /0, if-match=*, if-modified-since=5, range=0-1", 304);
    tells(sorted(3), "GET /0, if-match=*, if-modified-since=4, range=0-1", 206);
  }

  private static void rangesOfOrigins() {
    CHECK.part("4 GET with a RANGE, and if IF_RANGE is NONE or a strong TAG that is the same");
    String[] ranges = {"0-0", "7-7", "8-8", "7-8", "0-900", "8-", "7-", "-1", "-8", "-9"};
    int[] first = {0, 7, -1, 7, 0, -1, 7, 7, 0, 0};
    int[] last = {0, 7, -1, 7, 7, -1, 7, 7, 7, 7};
    for (int i = 0; i < ranges.length; i++) {
      Cachefront x = sorted(3);
      tells(x, "GET /0, if-match=*, range=" + ranges[i], first[i] < 0 ? 416 : 206);
      CHECK.same("first place", x.ofAnswer(0, 8), first[i]);
      CHECK.same("last place", x.ofAnswer(0, 9), last[i]);
      String due = first[i] < 0 ? "" : x.body(0, 0, 0).substring(first[i], last[i] + 1);
      CHECK.same("these SIGNS", x.answerBody(0), due);
      tells(sorted(3), "GET /0, if-match=*, range=" + ranges[i] + ", if-range=12000", first[i] < 0 ? 416 : 206);
      tells(sorted(3), "GET /0, if-match=*, range=" + ranges[i] + ", if-range=12002", 200);
      tells(sorted(2), "GET /0, if-match=*, range=" + ranges[i] + ", if-range=12001", 200);
      tells(sorted(2), "GET /0, if-match=*, range=" + ranges[i], first[i] < 0 ? 416 : 206);
      tells(sorted(1), "GET /0, if-match=*, range=" + ranges[i] + ", if-range=0", 200);
      tells(sorted(3), "HEAD /0, if-match=*, range=" + ranges[i], 200);
    }
    for (String range : new String[] {"0-0", "0-", "-1", "-40", "5-6"}) {
      Cachefront x = Talk.alone();
      x.write(0, 0, 3, 0);
      tells(x, "GET /0, if-match=*, range=" + range, 416);
    }
  }

  private static void puts() {
    CHECK.part("4 PUT: a GREAT change, with the LENGTH SIZE");
    for (int size : new int[] {0, 1, 40}) {
      for (int sort = 0; sort <= 3; sort++) {
        Cachefront x = Talk.alone();
        x.write(0, 7, sort, sort);
        x.touch(0);
        Talk.send(x, "PUT /0" + (size == 0 ? "" : ", size=" + size));
        x.goBy(1);
        CHECK.same("LENGTH", x.ofPath(0, 0), size);
        CHECK.same("SORT stays", x.ofPath(0, 1), sort);
        CHECK.same("VARY stays", x.ofPath(0, 2), sort);
        CHECK.same("VERSION", x.ofPath(0, 3), 2);
        CHECK.same("TOUCH", x.ofPath(0, 4), 0);
        CHECK.same("MODIFIED", x.ofPath(0, 5), 1);
      }
      Cachefront x = Talk.alone();
      Talk.send(x, "PUT /0, lang=2, coding=1" + (size == 0 ? "" : ", size=" + size));
      x.goBy(1);
      int[] due = {size, 3, 0, 1, 0, 1};
      for (int what = 0; what <= 5; what++) {
        CHECK.same("there is one then: " + what, x.ofPath(0, what), due[what]);
      }
      x.goBy(1);
      CHECK.same("201", x.answerText(0), "201 passed");
    }
  }

  private static void postsAndDeletes() {
    CHECK.part("4 POST: a SMALL change; DELETE: it is gone");
    Cachefront x = Talk.ready();
    Talk.send(x, "POST /0, size=40");
    Talk.send(x, "POST /0");
    x.goBy(1);
    int[] due = {8, 3, 0, 1, 2, 1};
    for (int what = 0; what <= 5; what++) {
      CHECK.same("two SMALL changes: " + what, x.ofPath(0, what), due[what]);
    }
    Talk.send(x, "DELETE /0, size=3");
    Talk.send(x, "DELETE /0");
    x.goBy(1);
    for (int what = 0; what <= 5; what++) {
      CHECK.same("gone: " + what, x.ofPath(0, what), -1);
    }
    x.goBy(1);
    CHECK.same("the first one", x.answerText(2), "204 passed");
    CHECK.same("the second one finds none", x.answerText(3), "404 passed");
    CHECK.same("MAX_AGE stays", x.ofPath(0, 6), 600);
  }
}
