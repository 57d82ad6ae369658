/** Promises 31 to 36 and section 6: how REQUESTS are told. */
public final class AnswerTest {
  private static final Check CHECK = new Check();
  private static final int NEVER = -1000;

  public static void main(String[] args) {
    isTold();
    ofAnswer();
    answerBody();
    answerText();
    isTrue();
    waiting();
    ages();
    stales();
    freshness();
    faults();
    edgesOfStaleIf();
    passes();
    waiters();
    tellings();
    CHECK.end();
  }

  /** A house with a DOCUMENT of 8 SIGNS at PATH 0, of which ORIGINS tell that MAX_AGE. */
  private static Cachefront front(int sort, int maxAge) {
    Cachefront x = new Cachefront();
    x.write(0, 8, sort, 0);
    x.policy(0, maxAge, -1, -1, 0);
    return x;
  }

  private static int[] answer(Cachefront x, int id) {
    int[] all = new int[14];
    for (int what = 0; what < 14; what++) {
      all[what] = x.ofAnswer(id, what);
    }
    return all;
  }

  private static void sameAnswer(Cachefront x, int id, int... due) {
    int[] all = answer(x, id);
    for (int what = 0; what < 14; what++) {
      CHECK.same("ofAnswer(" + id + ", " + what + ")", all[what], due[what]);
    }
  }

  private static void isTold() {
    CHECK.part("31 isTold");
    Cachefront x = front(3, 5);
    x.get(0, 0, 0);
    CHECK.same("waits", x.isTold(0), false);
    x.goBy(1);
    CHECK.same("waits", x.isTold(0), false);
    x.goBy(1);
    CHECK.same("told", x.isTold(0), true);
    CHECK.outOfBounds(x, "isTold(1)", () -> x.isTold(1));
    CHECK.outOfBounds(x, "isTold(-1)", () -> x.isTold(-1));
  }

  private static void ofAnswer() {
    CHECK.part("32 ofAnswer");
    Cachefront x = front(3, 20);
    x.goBy(4);
    x.offset(2, -3);
    x.get(0, 0, 0);
    sameAnswer(x, 0, -1, -1, -1, -1, -1, -1, -1, -1, -1, -1, -1, -1, 4, -1);
    x.settle(9);
    sameAnswer(x, 0, 200, 1, 4, 20, 2, 0, 12000, 8, -1, -1, 5, 6, 4, 2);
    x.goBy(5);
    x.draft(0, 0, 0, 0, 0);
    x.range(-1, 3, -1);
    x.send();
    sameAnswer(x, 1, 206, 0, 9, 20, 2, 0, 12000, 8, 5, 7, 5, 11, 11, -1);
    x.draft(0, 0, 0, 0, 0);
    x.wish(-1, -1, -1, 1);
    x.send();
    x.settle(9);
    sameAnswer(x, 2, 200, 2, 4, 20, 9, 0, 12000, 8, -1, -1, 12, 13, 11, 2);
    x.get(5, 0, 0);
    x.settle(9);
    sameAnswer(x, 3, 404, 1, 0, 0, NEVER, NEVER, -1, -1, -1, -1, -1, 15, 13, x.ofFetch(2, 5));
    x.draft(0, 0, 1, 0, 0);
    x.wish(-1, -1, -1, 4);
    x.range(8, -1, -1);
    x.send();
    sameAnswer(x, 4, 416, 0, 6, 20, 9, 0, 12000, 8, -1, -1, 12, 15, 15, -1);
    CHECK.outOfBounds(x, "ofAnswer(5, 14)", () -> x.ofAnswer(5, 14));
    CHECK.outOfBounds(x, "ofAnswer(-1, 0)", () -> x.ofAnswer(-1, 0));
    CHECK.wrongArgument(x, "ofAnswer(0, 14)", () -> x.ofAnswer(0, 14));
    CHECK.wrongArgument(x, "ofAnswer(0, -1)", () -> x.ofAnswer(0, -1));
  }

  private static void answerBody() {
    CHECK.part("33 answerBody");
    Cachefront x = front(3, 20);
    x.touch(0);
    String body = x.body(0, 0, 0);
    x.get(0, 0, 0);
    CHECK.same("waits", x.answerBody(0), "");
    x.settle(9);
    CHECK.same("all", x.answerBody(0), body);
    int[][] ranges = {{2, 3}, {7, 99}, {3, -1}, {-1, 2}, {-1, 99}};
    String[] due = {body.substring(2, 4), body.substring(7), body.substring(3), body.substring(6), body};
    for (int i = 0; i < ranges.length; i++) {
      x.draft(0, 0, 0, 0, 0);
      x.range(ranges[i][0], ranges[i][1], -1);
      CHECK.same("a part", x.answerBody(x.send()), due[i]);
    }
    x.draft(1, 0, 0, 0, 0);
    CHECK.same("HEAD", x.answerBody(x.send()), "");
    x.draft(0, 0, 0, 0, 0);
    x.match(-1, 12002);
    CHECK.same("not changed", x.answerBody(x.send()), body);
    x.match(-1, 12012);
    CHECK.same("304", x.answerBody(x.send()), "");
    CHECK.same("SIGNS of all", x.house(18), 8 + 2 + 1 + 5 + 2 + 8 + 8);
    CHECK.outOfBounds(x, "answerBody(9)", () -> x.answerBody(9));
    CHECK.outOfBounds(x, "answerBody(-1)", () -> x.answerBody(-1));
  }

  private static void answerText() {
    CHECK.part("34 answerText");
    Cachefront x = front(1, 0);
    x.stale(0, 1, 60);
    x.get(0, 0, 0);
    CHECK.same("waits", x.answerText(0), "waits");
    x.settle(9);
    CHECK.same("without a TAG", x.answerText(0), "200 fetched, age=2");
    x.write(0, 8, 2, 0);
    x.draft(0, 0, 0, 0, 0);
    x.wish(-1, 2, -1, 0);
    CHECK.same("let stale", x.answerText(x.send()), "200 let stale, age=2");
    x.draft(0, 9, 0, 0, 0);
    x.wish(-1, -1, -1, 4);
    CHECK.same("not kept", x.answerText(x.send()), "504 not kept");
    x.get(0, 0, 0);
    x.settle(9);
    CHECK.same("fetched", x.answerText(3), "200 fetched, age=2, tag=12001".replace("12001", "24001"));
    x.draft(0, 0, 0, 0, 0);
    x.range(0, 3, -1);
    x.wish(-1, -1, -1, 1);
    x.send();
    x.settle(9);
    CHECK.same("validated", x.answerText(4), "206 validated, age=2, tag=24001, range=0-3/8");
    x.draft(3, 0, 0, 0, 0);
    x.send();
    x.settle(9);
    CHECK.same("passed", x.answerText(5), "204 passed");
    CHECK.outOfBounds(x, "answerText(6)", () -> x.answerText(6));
    CHECK.outOfBounds(x, "answerText(-1)", () -> x.answerText(-1));
  }

  private static void isTrue() {
    CHECK.part("35 isTrue");
    Cachefront x = front(2, 0);
    x.stale(0, 60, 60);
    x.get(0, 0, 0);
    CHECK.same("waits", x.isTrue(0), true);
    x.settle(9);
    x.touch(0);
    x.goBy(3);
    x.get(0, 0, 0);
    CHECK.same("stale, and the house changed since", x.isTrue(1), true);
    CHECK.same("letters of the old one", x.answerBody(1).equals(x.body(0, 0, 0)), false);
    x.goBy(2);
    x.get(0, 0, 0);
    CHECK.same("validated by a weak TAG", x.isTrue(2), true);
    CHECK.same("letters of the old one", x.answerBody(2).equals(x.body(0, 0, 0)), false);
    x.remove(0);
    x.get(0, 0, 0);
    CHECK.same("gone since", x.isTrue(3), true);
    x.get(5, 0, 0);
    x.settle(9);
    CHECK.same("404", x.isTrue(4), true);
    CHECK.outOfBounds(x, "isTrue(5)", () -> x.isTrue(5));
    CHECK.outOfBounds(x, "isTrue(-1)", () -> x.isTrue(-1));
  }

  private static void waiting() {
    CHECK.part("36 waiting");
    Cachefront x = front(3, 5);
    x.get(0, 0, 0);
    x.get(0, 0, 0);
    x.get(1, 0, 0);
    CHECK.same("three", x.waiting(), "0 1 2");
    CHECK.same("counted", x.house(2), 3);
    x.goBy(1);
    x.get(2, 0, 0);
    x.goBy(1);
    CHECK.same("one", x.waiting(), "3");
    x.settle(9);
    CHECK.same("none", x.waiting(), "");
    CHECK.same("counted", x.house(2), 0);
  }

  // ---- section 6

  private static String wished(Cachefront x, int wantsAge, int letsStale, int wantsFresh, int wishes) {
    x.draft(0, 0, 0, 0, 0);
    x.wish(wantsAge, letsStale, wantsFresh, wishes);
    int would = x.wouldBe();
    int id = x.send();
    if (x.isTold(id)) {
      CHECK.same("as wouldBe()", x.ofAnswer(id, 1), would);
    }
    String text = x.answerText(id);
    x.settle(60);
    return text;
  }

  private static void ages() {
    CHECK.part("6 READY by ages");
    Cachefront x = front(3, 10);
    x.get(0, 0, 0);
    x.goBy(9);
    CHECK.same("FRESH by 1", wished(x, -1, -1, -1, 0), "200 hit, age=9, tag=12000");
    CHECK.same("WANTS_AGE", wished(x, 9, -1, -1, 0), "200 hit, age=9, tag=12000");
    CHECK.same("WANTS_FRESH", wished(x, -1, -1, 1, 0), "200 hit, age=9, tag=12000");
    CHECK.same("WANTS_FRESH more", wished(x, -1, -1, 2, 4), "504 not kept");
    CHECK.same("WANTS_AGE less", wished(x, 8, -1, -1, 4), "504 not kept");
    CHECK.same("NO_CACHE", wished(x, -1, -1, -1, 5), "504 not kept");
    x.goBy(1);
    CHECK.same("no longer FRESH", wished(x, -1, -1, -1, 4), "504 not kept");
    CHECK.same("lets no more", wished(x, -1, 0, -1, 4), "200 let stale, age=10, tag=12000");
    x.goBy(3);
    CHECK.same("lets 2", wished(x, -1, 2, -1, 4), "504 not kept");
    CHECK.same("lets 3", wished(x, -1, 3, -1, 4), "200 let stale, age=13, tag=12000");
    CHECK.same("WANTS_FRESH none", wished(x, -1, 600, 0, 4), "504 not kept");
    CHECK.same("WANTS_AGE", wished(x, 12, 600, -1, 4), "504 not kept");
    CHECK.same("WANTS_AGE", wished(x, 13, 600, -1, 4), "200 let stale, age=13, tag=12000");
    CHECK.same("validated", wished(x, -1, -1, -1, 0), "waits");
    CHECK.same("by its TAG", x.fetchText(1), "GET /0, if-none-match=12000");
    CHECK.same("young again", wished(x, 2, -1, 8, 4), "200 hit, age=2, tag=12000");
  }

  private static void stales() {
    CHECK.part("6 READY by STALE_WHILE");
    Cachefront x = front(3, 2);
    x.stale(0, 4, 0);
    x.get(0, 0, 0);
    x.goBy(5);
    CHECK.same("STALE by 3", wished(x, -1, 2, -1, 0), "200 stale while, age=5, tag=12000");
    CHECK.same("in the background", x.underWay(), "1");
    CHECK.same("without a REQUEST", x.ofFetch(1, 7), -1);
    CHECK.same("VALIDATE", x.ofFetch(1, 0), 1);
    CHECK.same("let goes ahead", wished(x, -1, 3, -1, 0), "200 let stale, age=5, tag=12000");
    CHECK.same("one in the background is enough", wished(x, -1, -1, -1, 0), "200 stale while, age=5, tag=12000");
    CHECK.same("FETCHES", x.house(3), 2);
    x.goBy(1);
    CHECK.same("STALE by 4", wished(x, -1, -1, -1, 4), "504 not kept");
    x.goBy(1);
    CHECK.same("young again", x.ofEntry(0, 4), 2);
    for (int flags : new int[] {8, 2}) {
      x.policy(0, 2, -1, -1, flags);
      x.warm(0, 0, 0);
      x.goBy(2);
      CHECK.same("MUST or NO_CACHE", wished(x, -1, 600, -1, 4), "504 not kept");
    }
    x.policy(0, -1, 2, -1, 0);
    x.warm(0, 0, 0);
    x.goBy(2);
    CHECK.same("SHARED_AGE", wished(x, -1, 600, -1, 4), "504 not kept");
  }

  private static void freshness() {
    CHECK.part("5 FRESHNESS");
    int[][] all = {{5, 7, 9, 7}, {5, -1, 9, 5}, {-1, -1, 9, 9}, {-1, -1, -1, 4}, {0, -1, 9, 0}, {-1, 0, 9, 0}};
    for (int[] ages : all) {
      Cachefront x = new Cachefront();
      x.goBy(3);
      x.write(0, 2, 1, 0);
      x.policy(0, ages[0], ages[1], ages[2], 0);
      x.goBy(45);
      x.get(0, 0, 0);
      x.settle(9);
      CHECK.same("FRESHNESS", x.ofAnswer(0, 3), ages[3]);
    }
    Cachefront x = new Cachefront();
    x.goBy(10);
    x.write(0, 2, 1, 0);
    x.offset(2, -50);
    x.get(0, 0, 0);
    x.settle(9);
    CHECK.same("not below 0", x.ofAnswer(0, 3), 0);
    x.offset(2, 50);
    x.write(1, 2, 0, 0);
    x.get(1, 0, 0);
    x.settle(9);
    CHECK.same("without a date", x.ofAnswer(1, 3), 0);
    for (int i = 0; i < 11; i++) {
      x.goBy(60);
    }
    x.get(0, 0, 0);
    x.settle(9);
    CHECK.same("not above 60", x.ofAnswer(2, 3), 60);
  }

  private static void moods(Cachefront x, int mood) {
    for (int o = 0; o < 3; o++) {
      x.mood(o, mood);
    }
  }

  private static void faults() {
    CHECK.part("6 a FAULT");
    Cachefront x = front(3, 2);
    x.stale(0, 0, 20);
    x.get(0, 0, 0);
    x.goBy(2);
    moods(x, 1);
    x.get(0, 0, 0);
    x.get(0, 0, 0);
    wished(x, 600, -1, -1, 0);
    CHECK.same("STALE_IF", x.answerText(1), "200 stale if, age=8, tag=12000");
    CHECK.same("who waits, too", x.answerText(2), "200 stale if, age=8, tag=12000");
    CHECK.same("not with WANTS_AGE", x.answerText(3), "502 fault");
    CHECK.same("nobody told it", x.ofAnswer(1, 13), -1);
    CHECK.same("three TRIES", x.ofFetch(1, 4), 3);
    wished(x, -1, -1, 0, 0);
    CHECK.same("not with WANTS_FRESH", x.answerText(4), "502 fault");
    wished(x, -1, -1, -1, 1);
    CHECK.same("not with NO_CACHE", x.answerText(5), "502 fault");
    CHECK.same("now", x.house(0), 20);
    wished(x, -1, -1, -1, 0);
    CHECK.same("STALE by 24", x.answerText(6), "502 fault");
    moods(x, 0);
    x.policy(0, 600, -1, -1, 0);
    x.warm(0, 0, 0);
    x.goBy(2);
    moods(x, 2);
    x.draft(0, 0, 0, 0, 0);
    x.wish(-1, -1, -1, 1);
    x.send();
    CHECK.same("given up thrice", x.settle(60), 36);
    CHECK.same("NO_CACHE", x.answerText(7), "504 fault");
    x.draft(2, 0, 0, 0, 3);
    x.send();
    CHECK.same("given up once", x.settle(60), 12);
    CHECK.same("a PASS", x.answerText(8), "504 fault");
    CHECK.same("ENTRIES stay", x.entries(), 1);
  }

  /** Only one ORIGIN is left, 2. */
  private static void leaveOne(Cachefront x) {
    x.weigh(0, 0);
    x.weigh(1, 0);
  }

  private static void edgesOfStaleIf() {
    CHECK.part("6 STALE by less than STALE_IF");
    for (int staleIf = 4; staleIf <= 6; staleIf++) {
      Cachefront x = front(3, 3);
      leaveOne(x);
      x.stale(0, 0, staleIf);
      x.get(0, 0, 0);
      x.goBy(8);
      x.weigh(2, 0);
      x.get(0, 0, 0);
      CHECK.same("STALE by 5", x.answerText(1), staleIf > 5 ? "200 stale if, age=8, tag=12000" : "503 fault");
      CHECK.same("AGE", x.ofAnswer(1, 2), staleIf > 5 ? 8 : 0);
    }
    for (int sharedAge = -1; sharedAge <= 3; sharedAge += 4) {
      Cachefront x = front(3, 3);
      leaveOne(x);
      x.policy(0, 3, sharedAge, -1, 0);
      x.stale(0, 0, 60);
      x.get(0, 0, 0);
      x.goBy(8);
      x.weigh(2, 0);
      x.get(0, 0, 0);
      CHECK.same("STRICT", x.answerText(1), sharedAge < 0 ? "200 stale if, age=8, tag=12000" : "503 fault");
    }
    freshByThen();
  }

  /** An answer of another LANG came in between. */
  private static void freshByThen() {
    Cachefront x = front(3, 20);
    leaveOne(x);
    x.get(0, 0, 0);
    x.goBy(22);
    x.delay(2, 5);
    x.get(0, 0, 0);
    x.delay(2, 1);
    x.warm(0, 1, 0);
    x.goBy(3);
    x.mood(2, 1);
    x.settle(60);
    CHECK.same("FRESH", x.answerText(1), "200 stale if, age=10, tag=12000");
  }

  private static String pass(Cachefront x, int method, int ifNone, int ifSince, int[] range) {
    x.draft(method, 0, 0, 0, 0);
    x.wish(-1, -1, -1, 2);
    x.match(-1, ifNone);
    x.since(ifSince, NEVER);
    x.range(range[0], range[1], range[2]);
    CHECK.same("wouldBe", x.wouldBe(), 6);
    int id = x.send();
    CHECK.same("a plain GET", x.fetchText(x.house(3) - 1), "GET /0");
    x.settle(9);
    return x.answerText(id) + " " + x.answerBody(id);
  }

  private static void passes() {
    CHECK.part("6 a PASS");
    Cachefront x = front(3, 50);
    String body = x.body(0, 0, 0);
    int[] whole = {-1, -1, -1};
    CHECK.same("GET", pass(x, 0, -1, NEVER, whole), "200 passed, age=2, tag=12000 " + body);
    CHECK.same("nothing is kept", x.entries(), 0);
    CHECK.same("HEAD", pass(x, 1, -1, NEVER, whole), "200 passed, age=2, tag=12000 ");
    CHECK.same("304", pass(x, 0, 12000, NEVER, whole), "304 passed, age=2, tag=12000 ");
    CHECK.same("304", pass(x, 1, -1, 0, whole), "304 passed, age=2, tag=12000 ");
    CHECK.same("206", pass(x, 0, -1, NEVER, new int[] {6, -1, -1}),
        "206 passed, age=2, tag=12000, range=6-7/8 " + body.substring(6));
    CHECK.same("416", pass(x, 0, 5, 0, new int[] {8, -1, 12000}), "416 passed, age=2, tag=12000 ");
    CHECK.same("IF_RANGE", pass(x, 0, -1, NEVER, new int[] {6, -1, 3}), "200 passed, age=2, tag=12000 " + body);
    x.draft(1, 0, 1, 1, 5);
    x.wish(1, 2, 3, 7);
    x.match(-2, -1);
    x.range(1, 2, -1);
    x.send();
    CHECK.same("with all that it has", x.fetchText(x.house(3) - 1), x.draftText());
    x.settle(9);
    x.get(0, 0, 0);
    x.settle(9);
    x.get(0, 1, 0);
    CHECK.same("kept", x.entries(), 1);
    x.draft(3, 0, 0, 0, 0);
    x.match(5, -1);
    x.send();
    x.settle(9);
    CHECK.same("412 lets ENTRIES stay", x.entries(), 1);
    x.match(-1, -1);
    x.send();
    x.goBy(1);
    CHECK.same("not yet", x.entries(), 1);
    x.goBy(1);
    CHECK.same("204 lets ENTRIES go", x.entries(), 0);
    CHECK.same("not for want of ROOM", x.house(8), 0);
    afterPass(x);
  }

  private static void afterPass(Cachefront x) {
    x.remove(0);
    CHECK.same("404", pass(x, 0, -2, 600, new int[] {0, 0, -1}), "404 passed ");
    int first = x.house(1);
    x.weigh(0, 0);
    x.weigh(1, 0);
    x.weigh(2, 0);
    CHECK.same("503", pass(x, 0, -1, NEVER, new int[] {-1, -1, -1}), "503 fault ");
    CHECK.same("HOW", x.ofAnswer(first, 1), 8);
  }

  private static void waiters() {
    CHECK.part("6 those that WAIT");
    Cachefront x = new Cachefront();
    x.get(0, 0, 0);
    x.get(0, 0, 0);
    x.get(0, 0, 0);
    CHECK.same("one FETCH", x.underWay(), "0");
    CHECK.same("two WAIT for it", x.ofFetch(0, 8), 2);
    x.draft(0, 0, 0, 0, 0);
    x.range(0, 2, -1);
    CHECK.same("wouldBe", x.wouldBe(), 2);
    x.goBy(2);
    CHECK.same("404", x.answerText(0), "404 fetched");
    CHECK.same("looked at again", x.underWay(), "1");
    CHECK.same("for the first of them", x.ofFetch(1, 7), 1);
    CHECK.same("the other WAITS for that", x.ofFetch(1, 8), 1);
    CHECK.same("none for the old one", x.ofFetch(0, 8), 0);
    x.write(0, 5, 0, 0);
    x.goBy(1);
    x.get(0, 0, 0);
    CHECK.same("two WAIT for it", x.ofFetch(1, 8), 2);
    x.goBy(1);
    CHECK.same("200", x.answerText(1), "200 fetched, age=2");
    CHECK.same("nothing is FRESH", x.ofFetch(2, 7), 2);
    CHECK.same("VALIDATE", x.ofFetch(2, 0), 1);
    CHECK.same("without validators", x.fetchText(2), "GET /0");
    x.policy(0, 3, -1, -1, 0);
    x.goBy(2);
    CHECK.same("fetched", x.answerText(2), "200 fetched, age=2");
    CHECK.same("from what was kept then", x.answerText(3), "200 hit, age=2");
    CHECK.same("at once", x.ofAnswer(3, 11), 6);
    x.get(0, 1, 0);
    CHECK.same("LANG is not in VARY", x.answerText(4), "200 hit, age=2");
    x.purge(0);
    x.get(0, 1, 0);
    x.get(0, 0, 0);
    CHECK.same("but FETCHES are of one LANG", x.underWay(), "3 4");
  }

  private static void tellings() {
    CHECK.part("6 to be TOLD");
    Cachefront x = front(1, 100);
    x.goBy(5);
    x.get(0, 0, 0);
    x.settle(9);
    x.draft(0, 0, 0, 0, 0);
    x.since(-1, NEVER);
    CHECK.same("LAST is later", x.answerText(x.send()), "200 hit, age=2");
    x.since(0, NEVER);
    CHECK.same("LAST is not later", x.answerText(x.send()), "304 hit, age=2");
    x.match(-1, 5);
    CHECK.same("IF_NONE hides IF_SINCE", x.answerText(x.send()), "200 hit, age=2");
    x.match(-1, -2);
    CHECK.same("any", x.answerText(x.send()), "304 hit, age=2");
    x.match(-1, -1);
    x.since(NEVER, NEVER);
    x.range(0, 1, 0);
    CHECK.same("IF_RANGE without a TAG", x.answerText(x.send()), "200 hit, age=2");
    x.range(0, 1, -1);
    CHECK.same("a RANGE", x.answerText(x.send()), "206 hit, age=2, range=0-1/8");
    x.draft(1, 0, 0, 0, 0);
    x.range(0, 1, -1);
    CHECK.same("HEAD has none", x.answerText(x.send()), "200 hit, age=2");
    x.draft(1, 0, 0, 0, 0);
    x.wish(-1, -1, -1, 1);
    x.send();
    CHECK.same("validated by its date", x.fetchText(1), "GET /0, if-modified-since=0");
    x.settle(9);
    CHECK.same("validated", x.answerText(8), "200 validated, age=2");
    x.remove(0);
    x.send();
    x.settle(9);
    CHECK.same("404", x.answerText(9), "404 fetched");
    CHECK.same("404 lets them go", x.entries(), 0);
  }
}
