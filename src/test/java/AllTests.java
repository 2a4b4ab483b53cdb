/** Runs every test of the project; ends with exit code 1 if an answer was not as due. */
public final class AllTests {
  private AllTests() {}

  public static void main(String[] args) throws Exception {
    FaceTests.all();
    ReadmeTests.all();
    LawTests.all();
    SeenTests.all();
    BestTests.all();
    ToldTests.all();
    FliesTests.all();
    HostTests.all();
    Edges.all();
    ModelTests.all();
    System.out.println("the project's tests: " + Check.asked() + " answers, " + Check.wrong() + " not as due");
    if (Check.wrong() != 0) {
      System.exit(1);
    }
  }
}
