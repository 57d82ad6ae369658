import java.util.HashSet;
import java.util.Set;

/** The boundary cases of sections 1 and 7, sentence by sentence: ORIGINS, the ring, TICKS. */
public final class TimeEdgeTest {
  private static final Check CHECK = new Check();

  public static void main(String[] args) {
    outByNumber();
    outAgain();
    outWhileOut();
    outByGivingUp();
    failsInARow();
    otherAnswers();
    behindTheOthers();
    allAreOut();
    aroundTheRing();
    placesByWeight();
    nobodyOnTheRing();
    noPlaceTwice();
    hashes();
    clocks();
    delays();
    givenUp();
    moodsByArrival();
    ticksOfSettle();
    arrivalsByNumbers();
    answersByNumbers();
    beginningInATick();
    CHECK.end();
  }

  /** One REQUEST after the other, until so many FAILS of ORIGIN 2, which is alone and FAILING. */
  private static Cachefront failing(int fails) {
    Cachefront x = Talk.alone();
    x.mood(2, 1);
    for (int i = 0; i < fails; i++) {
      x.get(0, 0, 0);
      x.settle(60);
    }
    return x;
  }

  private static void outByNumber() {
    CHECK.part("1 OUT, if its FAILS are 3 or more and fewer than 30 TICKS have passed since the last one");
    for (int fails = 0; fails <= 4; fails++) {
      Cachefront x = failing(fails);
      CHECK.same("FAILS", x.ofOrigin(2, 4), fails);
      CHECK.same("OUT by " + fails, x.ofOrigin(2, 5), fails >= 3 ? 1 : 0);
      x.goBy(29);
      CHECK.same("29 TICKS after " + fails, x.ofOrigin(2, 5), fails >= 3 ? 1 : 0);
      x.goBy(1);
      CHECK.same("30 TICKS after " + fails, x.ofOrigin(2, 5), 0);
      CHECK.same("FAILS stay", x.ofOrigin(2, 4), fails);
    }
  }

  private static void outAgain() {
    CHECK.part("1 OUT again by one more FAIL");
    Cachefront x = failing(3);
    x.goBy(30);
    x.get(0, 0, 0);
    x.goBy(1);
    CHECK.same("not yet", x.ofOrigin(2, 5), 0);
    x.goBy(1);
    CHECK.same("a fourth one", x.ofOrigin(2, 4), 4);
    CHECK.same("OUT", x.ofOrigin(2, 5), 1);
    x.goBy(29);
    CHECK.same("29 TICKS after that", x.ofOrigin(2, 5), 1);
    x.goBy(1);
    CHECK.same("30 TICKS after that", x.ofOrigin(2, 5), 0);
  }

  private static void outWhileOut() {
    CHECK.part("1 since the last one");
    Cachefront x = failing(3);
    x.goBy(20);
    x.get(0, 0, 0);
    x.settle(60);
    x.goBy(8);
    CHECK.same("30 TICKS after the third one, 8 after the fourth", x.ofOrigin(2, 5), 1);
    x.goBy(21);
    CHECK.same("29 after the fourth", x.ofOrigin(2, 5), 1);
    x.goBy(1);
    CHECK.same("30 after the fourth", x.ofOrigin(2, 5), 0);
  }

  private static void outByGivingUp() {
    CHECK.part("1 giving up is a FAIL at that TICK");
    Cachefront x = Talk.alone();
    x.mood(2, 2);
    for (int i = 0; i < 3; i++) {
      x.get(0, 0, 0);
      x.goBy(11);
      CHECK.same("11 TICKS after", x.ofOrigin(2, 4), i);
      x.goBy(1);
      CHECK.same("12 TICKS after", x.ofOrigin(2, 4), i + 1);
    }
    x.goBy(29);
    CHECK.same("29 TICKS after it was given up", x.ofOrigin(2, 5), 1);
    x.goBy(1);
    CHECK.same("30 TICKS after", x.ofOrigin(2, 5), 0);
  }

  private static void failsInARow() {
    CHECK.part("1 FAILS in a row");
    Cachefront x = failing(2);
    x.mood(2, 0);
    x.get(0, 0, 0);
    x.settle(60);
    CHECK.same("404 sets them to 0", x.ofOrigin(2, 4), 0);
    x.mood(2, 1);
    for (int i = 1; i <= 3; i++) {
      x.get(0, 0, 0);
      x.settle(60);
      CHECK.same("from 0 on", x.ofOrigin(2, 4), i);
      CHECK.same("OUT", x.ofOrigin(2, 5), i == 3 ? 1 : 0);
    }
    x.mood(2, 0);
    x.get(0, 0, 0);
    x.settle(60);
    CHECK.same("no longer OUT", x.ofOrigin(2, 5), 0);
  }

  private static void otherAnswers() {
    CHECK.part("6 any other answer sets its FAILS to 0");
    String[] asked = {"GET /0", "GET /0, if-match=*, if-none-match=12000", "GET /0, range=9-", "GET /0, range=0-0",
        "GET /1", "PUT /1", "POST /0", "PUT /0, if-match=5", "HEAD /0", "GET /0, no-store"};
    String[] due = {"200 ", "304 ", "416 ", "206 ", "404 ", "201 ", "204 ", "412 ", "200 ", "200 "};
    for (int i = 0; i < asked.length; i++) {
      Cachefront x = failing(3);
      x.write(0, 8, 3, 0);
      x.mood(2, 0);
      CHECK.same(asked[i], Talk.told(x, asked[i]).substring(0, 4), due[i]);
      CHECK.same("FAILS after " + asked[i], x.ofOrigin(2, 4), 0);
      CHECK.same("OUT after " + asked[i], x.ofOrigin(2, 5), 0);
    }
  }

  /** All have the WEIGHT 2; places by hand: 4 at 18942, 2 at 21865, 3 at 23007, 1 at 23540, 0 at 36606. */
  private static Cachefront five() {
    Cachefront x = new Cachefront();
    for (int o = 0; o < 5; o++) {
      x.weigh(o, 2);
    }
    return x;
  }

  private static void fail(Cachefront x, int origin) {
    x.mood(origin, 1);
    for (int i = 0; i < 3; i++) {
      x.get(0, 0, 0);
      x.settle(60);
    }
  }

  private static void behindTheOthers() {
    CHECK.part("1 ORDER: those that are OUT behind the others");
    Cachefront x = five();
    CHECK.same("KEY", x.hash(5000), 18836);
    CHECK.same("RING ORDER", x.order(0, true), "4 2 3 1 0");
    CHECK.same("ORDER", x.order(0, false), "4 2 3 1 0");
    fail(x, 4);
    CHECK.same("one is OUT", x.order(0, false), "2 3 1 0 4");
    fail(x, 2);
    CHECK.same("two are OUT, in RING ORDER", x.order(0, false), "3 1 0 4 2");
    CHECK.same("the ring stays", x.order(0, true), "4 2 3 1 0");
    CHECK.same("the first in RING ORDER stays", x.ofOrigin(4, 7) > 0, true);
    CHECK.same("if weighed so", x.ifWeighed(4, 2, 0), 4);
    x.get(0, 0, 0);
    CHECK.same("the first one in ORDER is tried", x.ofFetch(x.house(3) - 1, 5), 3);
  }

  private static void allAreOut() {
    CHECK.part("1 all are OUT");
    Cachefront x = new Cachefront();
    for (int o = 0; o < 3; o++) {
      x.mood(o, 1);
    }
    for (int i = 0; i < 3; i++) {
      x.get(0, 0, 0);
      x.settle(60);
    }
    CHECK.same("OUT", x.ofOrigin(0, 5) + x.ofOrigin(1, 5) + x.ofOrigin(2, 5), 3);
    CHECK.same("ORDER is RING ORDER", x.order(0, false), x.order(0, true));
    CHECK.same("ORDER", x.order(0, false), "2 1 0");
  }

  private static void aroundTheRing() {
    CHECK.part("1 from 65535 on to 0, and once around");
    Cachefront x = new Cachefront();
    CHECK.same("KEY of 1", x.hash(5037), 61114);
    CHECK.same("behind it, up to 65535", x.hash(105), 61130);
    CHECK.same("from 0 on", x.hash(4), 1706);
    CHECK.same("from 0 on", x.hash(202), 3220);
    CHECK.same("one ahead of the end, two behind it", x.order(1, true), "1 0 2");
    CHECK.same("KEY of 9", x.hash(5333), 59206);
    CHECK.same("two ahead of the end", x.order(9, true), "0 1 2");
    x.weigh(1, 0);
    CHECK.same("the first one is met behind the end", x.order(1, true), "0 2");
    CHECK.same("if weighed so", x.ifWeighed(0, 0, 1), 2);
    CHECK.same("if weighed so", x.ifWeighed(1, 2, 1), 1);
  }

  /** ORIGIN 0 stands at HASH(k) for k below 4 * WEIGHT; its least way from the KEY, by hand. */
  private static void placesByWeight() {
    CHECK.part("1 on the ring for each k from 0 to 4 * w - 1");
    for (int path = 0; path < 12; path++) {
      for (int origin = 0; origin < 5; origin++) {
        for (int weight = 0; weight <= 4; weight++) {
          Cachefront x = new Cachefront();
          int least = 65536;
          for (int o = 0; o < 5; o++) {
            x.weigh(o, o == origin ? weight : o == (origin + 1) % 5 ? 1 : 0);
          }
          int due = -1;
          for (int o : new int[] {origin, (origin + 1) % 5}) {
            for (int k = 0; k < (o == origin ? 4 * weight : 4); k++) {
              int way = (x.hash(100 * o + k) - x.hash(5000 + 37 * path) + 65536) % 65536;
              due = way < least ? o : due;
              least = Math.min(least, way);
            }
          }
          CHECK.same("the first one of " + path, x.order(path, true).charAt(0) - '0', due);
          CHECK.same("how many", x.order(path, true).length(), weight == 0 ? 1 : 3);
        }
      }
    }
  }

  private static void nobodyOnTheRing() {
    CHECK.part("1 a WEIGHT of 0 has no place");
    Cachefront x = new Cachefront();
    for (int o = 0; o < 3; o++) {
      x.weigh(o, 0);
    }
    for (int path = 0; path < 12; path++) {
      CHECK.same("RING ORDER", x.order(path, true), "");
      CHECK.same("ORDER", x.order(path, false), "");
      CHECK.same("NONE without any", x.ifWeighed(path % 5, 0, path), -1);
      CHECK.same("the only one", x.ifWeighed(path % 5, 1 + path % 4, path), path % 5);
    }
    for (int o = 0; o < 5; o++) {
      CHECK.same("first of no PATH", x.ofOrigin(o, 7), 0);
    }
    x.weigh(3, 1);
    CHECK.same("first of all PATHS", x.ofOrigin(3, 7), 12);
    CHECK.same("alone", x.order(7, false), "3");
  }

  /** So that neither "that place, too" nor "the smaller number first" ever decides an ORDER. */
  private static void noPlaceTwice() {
    CHECK.part("1 places on the ring, and KEYS");
    Set<Integer> places = new HashSet<>();
    Cachefront x = new Cachefront();
    for (int o = 0; o < 5; o++) {
      for (int k = 0; k < 16; k++) {
        CHECK.same("a place of its own", places.add(x.hash(100 * o + k)), true);
      }
    }
    for (int path = 0; path < 12; path++) {
      CHECK.same("no KEY is a place", places.add(x.hash(5000 + 37 * path)), true);
    }
  }

  private static void hashes() {
    CHECK.part("1 HASH, modulo 65536");
    Cachefront x = new Cachefront();
    // a = 13849, 39022, 64195 and 89368 - 65536 = 23832
    int[] a = {13849, 39022, 64195, 23832};
    for (int k = 0; k < a.length; k++) {
      CHECK.same("hash(" + k + ")", x.hash(k), ((a[k] + a[k] / 128) * 9001 + 7) % 65536);
    }
    CHECK.same("hash(0)", x.hash(0), 59988);
    // a = 251718676 modulo 65536 = 60436
    CHECK.same("hash(9999)", x.hash(9999), ((60436 + 472) * 9001 + 7) % 65536);
  }

  private static void clocks() {
    CHECK.part("1 its clock tells NOW + OFFSET");
    Cachefront x = new Cachefront();
    x.offset(0, -50);
    x.offset(1, 50);
    CHECK.same("at 0", x.ofOrigin(0, 8), -50);
    CHECK.same("at 0", x.ofOrigin(1, 8), 50);
    x.goBy(60);
    CHECK.same("at 60", x.ofOrigin(0, 8), 10);
    CHECK.same("at 60", x.ofOrigin(1, 8), 110);
    CHECK.same("at 60", x.ofOrigin(2, 8), 60);
  }

  private static void delays() {
    CHECK.part("6 arrives at s + d, and its answer comes at s + 2 * d");
    for (int delay = 1; delay <= 5; delay++) {
      Cachefront x = Talk.alone();
      x.delay(2, delay);
      x.goBy(3);
      x.write(0, 4, 3, 0);
      Talk.send(x, "GET /0");
      x.delay(2, 6 - delay);
      for (int i = 1; i <= delay; i++) {
        x.write(0, 4, 3, 0);
        x.goBy(1);
      }
      x.write(0, 4, 3, 0);
      for (int i = delay + 1; i <= 2 * delay; i++) {
        CHECK.same("WAITS " + i, x.isTold(0), false);
        x.goBy(1);
      }
      CHECK.same("TOLD at s + 2 * d", x.ofAnswer(0, 11), 3 + 2 * delay);
      CHECK.same("MADE at s + d", x.ofAnswer(0, 10), 3 + delay);
      CHECK.same("DATE", x.ofAnswer(0, 4), 3 + delay);
      CHECK.same("as it was then", x.ofAnswer(0, 6), (delay + 1) * 12000);
    }
  }

  private static void givenUp() {
    CHECK.part("6 if none comes (SILENT), the front gives up at s + 12");
    for (int delay = 1; delay <= 5; delay++) {
      Cachefront x = Talk.alone();
      x.delay(2, delay);
      x.mood(2, 2);
      x.goBy(7);
      x.get(0, 0, 0);
      x.goBy(11);
      CHECK.same("not yet, DELAY " + delay, x.isTold(0), false);
      CHECK.same("under way", x.ofFetch(0, 9), 1);
      CHECK.same("0 while it is under way", x.ofFetch(0, 10), 0);
      x.goBy(1);
      CHECK.same("given up", x.answerText(0), "504 fault");
      CHECK.same("FAULT 504", x.ofFetch(0, 10), 504);
      CHECK.same("TOLD at s + 12", x.ofAnswer(0, 11), 19);
    }
  }

  private static void moodsByArrival() {
    CHECK.part("1 a MOOD is for TRIES that arrive from now on");
    for (int before = 0; before <= 2; before++) {
      for (int then = 0; then <= 2; then++) {
        Cachefront x = Talk.alone();
        x.delay(2, 3);
        x.mood(2, before);
        x.get(0, 0, 0);
        x.goBy(2);
        x.mood(2, then);
        x.goBy(1);
        x.mood(2, before);
        x.settle(60);
        CHECK.same("as it arrived", x.answerText(0), then == 0 ? "404 fetched" : then == 1 ? "502 fault" : "504 fault");
        CHECK.same("TOLD at", x.ofAnswer(0, 11), then == 2 ? 12 : 6);
      }
    }
  }

  private static void ticksOfSettle() {
    CHECK.part("3 until no REQUEST WAITS, at most so many");
    Cachefront x = Talk.alone();
    x.delay(2, 5);
    CHECK.same("none WAITS", x.settle(120), 0);
    CHECK.same("NOW", x.house(0), 0);
    for (int i = 0; i < 16; i++) {
      x.get(0, 0, 0);
    }
    CHECK.same("one less than it needs", x.settle(9), 9);
    CHECK.same("WAITS", x.isTold(0), false);
    CHECK.same("just what the first one needs", x.settle(1), 1);
    CHECK.same("TOLD", x.isTold(0), true);
    CHECK.same("16 one after the other, at most 120", x.settle(120), 120);
    CHECK.same("NOW", x.house(0), 130);
    CHECK.same("three WAIT", x.waiting(), "13 14 15");
    CHECK.same("what they need", x.settle(120), 30);
    CHECK.same("none WAITS", x.waiting(), "");
  }

  private static void arrivalsByNumbers() {
    CHECK.part("7 FETCHES under way, by numbers: each whose TRY arrives now");
    Cachefront x = Talk.alone();
    Talk.send(x, "PUT /0, size=3");
    Talk.send(x, "GET /0");
    x.settle(9);
    CHECK.same("the PUT first", Talk.answer(x, 1), "200 fetched, age=2, tag=12000 " + x.body(0, 0, 0));
    Cachefront y = Talk.alone();
    Talk.send(y, "GET /0");
    Talk.send(y, "PUT /0, size=3");
    y.settle(9);
    CHECK.same("the GET first", Talk.answer(y, 0), "404 fetched");
    CHECK.same("then the PUT", Talk.answer(y, 1), "201 passed");
    Cachefront z = Talk.alone();
    Talk.send(z, "POST /0");
    Talk.send(z, "PUT /0, size=3");
    Talk.send(z, "DELETE /0");
    Talk.send(z, "PUT /0, size=4");
    z.settle(9);
    CHECK.same("POST", Talk.answer(z, 0), "404 passed");
    CHECK.same("PUT", Talk.answer(z, 1), "201 passed");
    CHECK.same("DELETE", Talk.answer(z, 2), "204 passed");
    CHECK.same("PUT", Talk.answer(z, 3), "201 passed");
    CHECK.same("VERSION", z.ofPath(0, 3), 2);
  }

  private static void answersByNumbers() {
    CHECK.part("7 then, by numbers: each whose answer comes now");
    Cachefront x = Talk.ready();
    Talk.send(x, "PUT /0, size=3");
    Talk.send(x, "GET /0");
    x.settle(9);
    CHECK.same("ENTRIES go, then one is KEPT", x.entries(), 1);
    Cachefront y = Talk.ready();
    Talk.send(y, "GET /0");
    Talk.send(y, "PUT /0, size=3");
    y.settle(9);
    CHECK.same("one is KEPT, then ENTRIES go", y.entries(), 0);
    Cachefront z = Talk.ready();
    z.write(1, 8, 3, 0);
    z.room(18);
    Talk.send(z, "GET /1");
    Talk.send(z, "GET /0");
    z.settle(9);
    CHECK.same("the greater number is KEPT last", z.ofEntry(0, 0), 0);
    CHECK.same("the other one went", z.house(8), 1);
  }

  private static void beginningInATick() {
    CHECK.part("7 all that begins in a TICK has its SENT there");
    Cachefront x = Talk.alone();
    x.delay(2, 2);
    x.get(0, 0, 0);
    x.get(0, 0, 0);
    x.goBy(4);
    CHECK.same("the next FETCH", x.ofFetch(1, 6), 4);
    CHECK.same("has nothing yet", x.ofFetch(1, 9), 1);
    x.goBy(3);
    CHECK.same("WAITS", x.isTold(1), false);
    x.goBy(1);
    CHECK.same("TOLD", x.ofAnswer(1, 11), 8);
    x.weigh(1, 2);
    x.mood(2, 1);
    x.get(0, 0, 0);
    x.goBy(4);
    CHECK.same("the next TRY", x.ofFetch(2, 6), 12);
    CHECK.same("to another ORIGIN", x.ofFetch(2, 5), 1);
    x.goBy(1);
    CHECK.same("WAITS", x.isTold(2), false);
    x.goBy(1);
    CHECK.same("TOLD", x.ofAnswer(2, 11), 14);
  }
}
