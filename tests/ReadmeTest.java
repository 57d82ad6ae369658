/** The examples of README.md answer what stands there. */
public final class ReadmeTest {
  private static final Check CHECK = new Check();

  public static void main(String[] args) {
    Cachefront front = new Cachefront();
    first(front);
    second(front);
    CHECK.end();
  }

  private static void first(Cachefront front) {
    CHECK.part("the first example");
    front.write(0, 9, 3, 0);
    front.policy(0, 12, -1, -1, 0);
    int id = front.get(0, 0, 0);
    CHECK.same("settle", front.settle(20), 2);
    CHECK.same("answerText", front.answerText(id), "200 fetched, age=2, tag=12000");
    CHECK.same("answerBody", front.answerBody(id), "dkryfmtah");
  }

  private static void second(Cachefront front) {
    CHECK.part("the second example");
    front.draft(0, 0, 0, 0, 0);
    front.range(2, 4, -1);
    front.match(-1, 777);
    CHECK.same("draftText", front.draftText(), "GET /0, if-none-match=777, range=2-4");
    CHECK.same("wouldBe", front.wouldBe(), 0);
    int id = front.send();
    CHECK.same("answerText", front.answerText(id), "206 hit, age=2, tag=12000, range=2-4/9");
    front.type(1, 5, 1000, 6, 16);
    CHECK.same("fault", front.fault(false, false), 0);
    front.toDraft();
    CHECK.same("draftText", front.draftText(), "HEAD /0, no-cache");
    id = front.send();
    CHECK.same("answerText", front.answerText(id), "waits");
    CHECK.same("fetchText", front.fetchText(1), "GET /0, if-none-match=12000");
    front.goBy(2);
    CHECK.same("answerText", front.answerText(id), "200 validated, age=2, tag=12000");
  }
}
