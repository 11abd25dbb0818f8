/** Counts and prints the answers that are not the ones that are due. */
final class Check {
  private int asked = 0;
  private int wrong = 0;
  private String sentence = "";

  /** What is asked from here on stands for this sentence of the document. */
  void sentence(String words) {
    sentence = "[" + words + "] ";
  }

  void due(String call, long got, long want) {
    asked++;
    if (got != want) {
      wrong++;
      System.out.println(sentence + call + " answered " + got + ", due is " + want);
    }
  }

  void due(String call, boolean got, boolean want) {
    due(call, got ? 1L : 0L, want ? 1L : 0L);
  }

  int wrong() {
    return wrong;
  }

  void end() {
    System.out.println(asked + " answers, " + wrong + " not as due");
    if (wrong != 0) {
      System.exit(1);
    }
  }
}
