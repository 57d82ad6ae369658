/** Promises 46 to 48: FETCHES and their TRIES. */
public final class FetchTest {
  private static final Check CHECK = new Check();

  public static void main(String[] args) {
    underWay();
    ofFetch();
    fetchText();
    tries();
    outWhileTrying();
    methods();
    sentOfTheLastTry();
    CHECK.end();
  }

  private static void underWay() {
    CHECK.part("46 underWay");
    Cachefront x = new Cachefront();
    x.delay(2, 3);
    x.get(0, 0, 0);
    x.warm(1, 0, 0);
    x.warm(0, 1, 0);
    CHECK.same("three", x.underWay(), "0 1 2");
    CHECK.same("counted", x.house(4), 3);
    int other = x.order(1, true).charAt(0) - '0';
    x.goBy(2);
    CHECK.same("some", x.underWay(), other == 2 ? "0 1 2" : "0 2");
    x.goBy(4);
    CHECK.same("none", x.underWay(), "");
    CHECK.same("counted", x.house(4), 0);
    CHECK.same("ever", x.house(3), 3);
  }

  private static void sameFetch(Cachefront x, int fetch, int... due) {
    for (int what = 0; what <= 10; what++) {
      CHECK.same("ofFetch(" + fetch + ", " + what + ")", x.ofFetch(fetch, what), due[what]);
    }
  }

  private static void ofFetch() {
    CHECK.part("47 ofFetch");
    Cachefront x = new Cachefront();
    x.write(0, 9, 3, 0);
    x.policy(0, 2, -1, -1, 0);
    x.goBy(3);
    x.get(0, 2, 1);
    x.get(0, 2, 1);
    sameFetch(x, 0, 0, 0, 2, 1, 1, 2, 3, 0, 1, 1, 0);
    x.settle(9);
    sameFetch(x, 0, 0, 0, 2, 1, 1, 2, 3, 0, 0, 0, 200);
    sameFetch(x, 1, 1, 0, 2, 1, 1, 2, 5, 1, 0, 0, 304);
    x.write(0, 9, 3, 0);
    x.draft(0, 0, 0, 1, 0);
    x.range(2, 3, -1);
    x.wish(-1, -1, -1, 2);
    x.send();
    sameFetch(x, 2, 3, 0, 0, 1, 1, 2, 7, 2, 0, 1, 0);
    x.purge(0);
    x.wish(-1, -1, -1, 0);
    x.send();
    sameFetch(x, 3, 2, 0, 0, 1, 1, 2, 7, 3, 0, 1, 0);
    x.warm(0, 1, 0);
    sameFetch(x, 4, 0, 0, 1, 0, 1, 2, 7, -1, 0, 1, 0);
    x.goBy(2);
    sameFetch(x, 2, 3, 0, 0, 1, 1, 2, 7, 2, 0, 0, 200);
    sameFetch(x, 3, 2, 0, 0, 1, 1, 2, 7, 3, 0, 0, 206);
    sameFetch(x, 4, 0, 0, 1, 0, 1, 2, 7, -1, 0, 0, 200);
    CHECK.outOfBounds(x, "ofFetch(5, 11)", () -> x.ofFetch(5, 11));
    CHECK.outOfBounds(x, "ofFetch(-1, 0)", () -> x.ofFetch(-1, 0));
    CHECK.wrongArgument(x, "ofFetch(0, 11)", () -> x.ofFetch(0, 11));
    CHECK.wrongArgument(x, "ofFetch(4, -1)", () -> x.ofFetch(4, -1));
  }

  private static void fetchText() {
    CHECK.part("48 fetchText");
    Cachefront x = new Cachefront();
    x.draft(1, 3, 1, 0, 7);
    x.wish(5, 6, 7, 1);
    x.match(-1, 5);
    x.send();
    CHECK.same("HEAD is asked as GET", x.fetchText(0), "GET /3, lang=1");
    x.match(4, 5);
    x.since(6, -1000);
    x.send();
    CHECK.same("a PASS with all", x.fetchText(1), "HEAD /3, lang=1, size=7, max-age=5, max-stale=6, min-fresh=7, "
        + "no-cache, if-match=4, if-none-match=5, if-modified-since=6");
    x.draft(0, 3, 0, 1, 0);
    x.range(5, -1, -1);
    x.match(-1, -2);
    x.send();
    CHECK.same("its RANGE", x.fetchText(2), "GET /3, coding=1, range=5-");
    x.range(-1, 4, 12000);
    x.send();
    CHECK.same("no RANGE with IF_RANGE", x.fetchText(3), "GET /3, coding=1");
    x.draft(1, 4, 0, 0, 0);
    x.range(5, -1, -1);
    x.send();
    CHECK.same("no RANGE of HEAD", x.fetchText(4), "GET /4");
    CHECK.outOfBounds(x, "fetchText(5)", () -> x.fetchText(5));
    CHECK.outOfBounds(x, "fetchText(-1)", () -> x.fetchText(-1));
  }

  private static void tries() {
    CHECK.part("6 TRIES");
    Cachefront x = new Cachefront();
    for (int o = 0; o < 5; o++) {
      x.weigh(o, 2);
      x.mood(o, 1);
    }
    String order = x.order(0, true);
    x.get(0, 0, 0);
    for (int i = 0; i < 3; i++) {
      CHECK.same("TRIES", x.ofFetch(0, 4), i + 1);
      CHECK.same("in ORDER", x.ofFetch(0, 5), order.charAt(2 * i) - '0');
      CHECK.same("sent at once", x.ofFetch(0, 6), 2 * i);
      x.goBy(2);
    }
    CHECK.same("three are enough", x.answerText(0), "502 fault");
    CHECK.same("502", x.ofFetch(0, 10), 502);
    x.mood(order.charAt(0) - '0', 0);
    x.mood(order.charAt(2) - '0', 2);
    x.get(0, 0, 0);
    x.settle(9);
    CHECK.same("the first one is WELL", x.answerText(1), "404 fetched");
    CHECK.same("FAILS are gone", x.ofOrigin(order.charAt(0) - '0', 4), 0);
    x.mood(order.charAt(0) - '0', 1);
    x.mood(order.charAt(4) - '0', 0);
    x.get(0, 0, 0);
    CHECK.same("500, given up, 404", x.settle(60), 2 + 12 + 2);
    CHECK.same("the third one told", x.ofAnswer(2, 13), order.charAt(4) - '0');
    x.weigh(order.charAt(4) - '0', 0);
    x.weigh(order.charAt(6) - '0', 0);
    x.weigh(order.charAt(8) - '0', 0);
    x.get(0, 0, 0);
    CHECK.same("500, given up", x.settle(60), 2 + 12);
    CHECK.same("no third one", x.answerText(3), "504 fault");
    CHECK.same("two TRIES", x.ofFetch(3, 4), 2);
  }

  /** ORDER is looked at anew for each TRY. */
  private static void outWhileTrying() {
    CHECK.part("6 ORDER as it is then");
    Cachefront x = new Cachefront();
    x.mood(2, 1);
    x.mood(1, 1);
    x.delay(2, 5);
    x.get(0, 0, 0);
    x.weigh(1, 0);
    CHECK.same("2, then 0", x.settle(60), 12);
    CHECK.same("0 told", x.ofAnswer(0, 13), 0);
    x.weigh(1, 2);
    x.delay(2, 1);
    x.goBy(1);
    x.weigh(2, 0);
    x.mood(0, 1);
    for (int i = 0; i < 3; i++) {
      x.get(0, 0, 0);
      x.settle(60);
    }
    CHECK.same("both are OUT", x.ofOrigin(0, 5) + x.ofOrigin(1, 5), 2);
    x.weigh(2, 2);
    CHECK.same("behind", x.order(0, false), "2 1 0");
    x.get(0, 0, 0);
    x.settle(60);
    CHECK.same("those that are OUT are tried, too", x.ofFetch(x.house(3) - 1, 4), 3);
  }

  private static void methods() {
    CHECK.part("6 TRIES by METHOD");
    for (int method = 0; method < 5; method++) {
      Cachefront x = new Cachefront();
      x.write(0, 3, 3, 0);
      x.mood(2, 1);
      x.draft(method, 0, 0, 0, 1);
      x.match(-2, -1);
      x.send();
      x.settle(60);
      CHECK.same("METHOD " + method, x.answerText(0), method < 2 ? "200 passed, age=2, tag=12000" : "502 fault");
      CHECK.same("TRIES", x.ofFetch(0, 4), method < 2 ? 2 : 1);
      CHECK.same("nothing is done", x.ofPath(0, 3) + x.ofPath(0, 4), 1);
    }
  }

  private static void sentOfTheLastTry() {
    CHECK.part("6 SENT of an answer");
    Cachefront x = new Cachefront();
    x.write(0, 3, 3, 0);
    x.policy(0, 9, -1, -1, 0);
    x.mood(2, 2);
    x.get(0, 0, 0);
    CHECK.same("given up, then 200", x.settle(60), 14);
    CHECK.same("SENT", x.ofEntry(0, 11), 12);
    CHECK.same("GOT", x.ofEntry(0, 12), 14);
    CHECK.same("AGE", x.ofAnswer(0, 2), 2);
    CHECK.same("its own TICK", x.ofAnswer(0, 12), 0);
  }
}
