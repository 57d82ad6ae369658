/** REFUSED is told where a method names it; nothing changes then, and exceptions go ahead of it. */
public final class RefusedTest {
  private static final Check CHECK = new Check();

  /** A call that answers a number. */
  private interface Asked {
    int of(Cachefront x);
  }

  public static void main(String[] args) {
    touch();
    remove();
    send();
    warm();
    rows();
    counted();
    sixtyRequests();
    CHECK.end();
  }

  /** PATH 0 is kept and under way, 60 REQUESTS are SENT, the ROW has a FAULT, PATH 9 has no DOCUMENT. */
  private static Cachefront front() {
    Cachefront x = Talk.ready();
    x.policy(9, 1, 2, 3, 4);
    x.stale(9, 5, 6);
    for (int i = 0; i < 59; i++) {
      x.get(0, 0, 0);
    }
    x.settle(9);
    x.warm(0, 0, 0);
    x.get(8, 2, 1);
    Talk.draft(x, "GET /0, lang=1, max-age=0");
    Talk.type(x, "get / 12");
    return x;
  }

  /** Two fronts alike: of one the call is REFUSED, of the other touch() is, as that changes nothing else. */
  private static void refused(String what, Asked asked) {
    Cachefront x = front();
    Cachefront y = front();
    CHECK.same(what, asked.of(x), -9);
    CHECK.same("touch", y.touch(9), -9);
    CHECK.same(what + " changed nothing", x.digest(), y.digest());
    CHECK.same("counted", x.house(21), 1);
    CHECK.same("again", asked.of(x), -9);
    CHECK.same("counted again", x.house(21), 2);
    CHECK.same("not as told by blank()", x.house(19), 0);
  }

  private static void touch() {
    CHECK.part("13 REFUSED if there is none");
    refused("touch(9)", x -> x.touch(9));
    Cachefront x = front();
    CHECK.same("VERSION stays", x.write(9, 1, 1, 1), 1);
    CHECK.same("no longer", x.touch(9), 1);
    CHECK.outOfBounds(x, "no such PATH", () -> x.touch(12));
  }

  private static void remove() {
    CHECK.part("14 REFUSED if there is none");
    refused("remove(9)", x -> x.remove(9));
    Cachefront x = front();
    x.write(9, 1, 1, 1);
    CHECK.same("there is one", x.remove(9), 1);
    CHECK.same("there is none", x.remove(9), -9);
    CHECK.outOfBounds(x, "no such PATH", () -> x.remove(-1));
  }

  private static void send() {
    CHECK.part("27 REFUSED if there are 60 REQUESTS");
    refused("send()", x -> x.send());
    CHECK.part("29 REFUSED if there are 60 REQUESTS");
    refused("get(1, 0, 0)", x -> x.get(1, 0, 0));
    Cachefront x = front();
    CHECK.wrongArgument(x, "exceptions go ahead: PATH", () -> x.get(12, 0, 0));
    CHECK.wrongArgument(x, "exceptions go ahead: LANG", () -> x.get(0, 3, 0));
    CHECK.wrongArgument(x, "exceptions go ahead: CODING", () -> x.get(0, 0, 2));
    CHECK.same("none of them is counted", x.house(21), 0);
  }

  private static void warm() {
    CHECK.part("45 REFUSED if a JOINABLE one is under way");
    refused("warm(0, 0, 0)", x -> x.warm(0, 0, 0));
    refused("warm(8, 2, 1)", x -> x.warm(8, 2, 1));
    Cachefront x = front();
    CHECK.outOfBounds(x, "no such PATH", () -> x.warm(12, 0, 0));
    CHECK.wrongArgument(x, "no such LANG", () -> x.warm(0, 3, 0));
    CHECK.wrongArgument(x, "no such CODING", () -> x.warm(0, 0, 2));
    CHECK.same("none of them is counted", x.house(21), 0);
    CHECK.same("another LANG", x.warm(0, 1, 0), x.house(3) - 1);
    x.goBy(2);
    CHECK.same("it is over", x.warm(0, 0, 0), x.house(3) - 1);
  }

  private static void rows() {
    CHECK.part("53 REFUSED with a FAULT");
    refused("toDraft()", x -> x.toDraft());
    CHECK.part("54 REFUSED with a FAULT");
    refused("toPolicy(9)", x -> x.toPolicy(9));
    Cachefront x = front();
    CHECK.outOfBounds(x, "exceptions go ahead", () -> x.toPolicy(12));
    CHECK.outOfBounds(x, "exceptions go ahead", () -> x.toPolicy(-1));
    CHECK.same("none of them is counted", x.house(21), 0);
    for (String row : new String[] {"", "get", "get / 12", "get / 1 , no-cache , no-cache", "no-cache", "get / 1 ,"}) {
      Talk.type(x, row);
      CHECK.same("as a REQUEST: " + row, x.toDraft(), -9);
      CHECK.same("the DRAFT stays", x.draftText(), "GET /0, lang=1, max-age=0");
    }
    for (String row : new String[] {"get / 1", "no-cache ,", "stale-if = 61", "no-cache , no-cache", "max-age ="}) {
      Talk.type(x, row);
      CHECK.same("as a POLICY: " + row, x.toPolicy(9), -9);
      CHECK.same("the POLICY stays", x.policyText(9), "max-age=1, s-maxage=2, expires=3, private, stale-while=5, stale-if=6");
    }
    CHECK.same("each of them is counted", x.house(21), 11);
  }

  private static void counted() {
    CHECK.part("57 how often REFUSED was told otherwise");
    Cachefront x = front();
    x.touch(9);
    x.remove(9);
    x.send();
    x.get(1, 1, 1);
    x.warm(0, 0, 0);
    x.toDraft();
    x.toPolicy(0);
    CHECK.same("one of each", x.house(21), 7);
    CHECK.same("blank() is told otherwise", x.blank(), -9);
    CHECK.same("not counted there", x.house(21), 7);
    CHECK.same("but here", x.house(19), 1);
    CHECK.same("ever", x.knock(), 1);
    CHECK.same("ever", x.house(20), 1);
  }

  private static void sixtyRequests() {
    CHECK.part("3 at most 60");
    Cachefront x = Talk.ready();
    for (int i = 0; i < 60; i++) {
      CHECK.same("which number it will have", x.draft(0, 1, 0, 0, 0), i);
      CHECK.same("numbered from 0 on", i % 2 == 0 ? x.send() : x.get(1, 0, 0), i);
    }
    CHECK.same("which number it would have", x.draft(1, 0, 0, 0, 0), 60);
    Talk.type(x, "get / 0");
    CHECK.same("which number it would have", x.toDraft(), 60);
    CHECK.same("how it would be TOLD", x.wouldBe(), 1);
    CHECK.same("REFUSED", x.send(), -9);
    CHECK.same("REFUSED", x.get(0, 0, 0), -9);
    CHECK.same("no FETCH began", x.house(3), 1);
    CHECK.same("REQUESTS", x.house(1), 60);
    CHECK.same("they WAIT", x.house(2), 60);
    CHECK.same("the last one", x.again(59), 0);
    CHECK.same("its text", x.requestText(59), "GET /1");
    CHECK.same("it WAITS", x.isTold(59), false);
    CHECK.outOfBounds(x, "no such REQUEST", () -> x.again(60));
    CHECK.outOfBounds(x, "no such REQUEST", () -> x.ofAnswer(60, 0));
    CHECK.same("WAIT for the first one's", x.ofFetch(0, 8), 59);
    x.settle(120);
    x.settle(1);
    CHECK.same("also when all are TOLD", x.send(), -9);
    CHECK.same("one after the other", x.house(3), 60);
    CHECK.same("all FETCHES", x.ofFetch(59, 7), 59);
    CHECK.same("all are TOLD", x.waiting(), "");
    CHECK.same("in the background one can go on", x.warm(0, 0, 0), 60);
  }
}
