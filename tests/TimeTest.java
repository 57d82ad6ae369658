/** Promises 1 to 11: time, origins and the ring. */
public final class TimeTest {
  private static final Check CHECK = new Check();

  public static void main(String[] args) {
    newObject();
    CHECK.end();
  }

  private static void newObject() {
    CHECK.part("1 a new object");
    Cachefront x = new Cachefront();
    CHECK.same("draftText", x.draftText(), "GET /0");
    CHECK.same("entries", x.entries(), 0);
    CHECK.same("house(7)", x.house(7), 300);
  }
}
