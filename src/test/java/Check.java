import java.nio.charset.StandardCharsets;

/** What the tests share: comparing answers, and putting a text on the TAPE. */
final class Check {
  private static int asked = 0;
  private static int wrong = 0;

  private Check() {
  }

  static void due(String call, long got, long want) {
    asked++;
    if (got != want) {
      wrong++;
      System.out.println(call + " answered " + got + ", due is " + want);
    }
  }

  static void that(String what, boolean holds) {
    due(what, holds ? 1 : 0, 1);
  }

  /** Ends the test: with exit code 1 if an answer was not as due. */
  static void finish() {
    System.out.println(asked + " answers, " + wrong + " not as due");
    if (wrong != 0 || asked == 0) {
      System.exit(1);
    }
  }

  /** The TAPE is the text alone. */
  static void tape(NationSchool school, String text) {
    tape(school, text.getBytes(StandardCharsets.ISO_8859_1));
  }

  static void tape(NationSchool school, byte[] bytes) {
    due("end(0)", school.end(0), 0);
    for (int from = 0; from < bytes.length; from += 20) {
      int[] five = new int[5];
      for (int i = 0; i < 20; i++) {
        int b = from + i < bytes.length ? bytes[from + i] & 255 : 0;
        five[i / 4] = five[i / 4] << 8 | b;
      }
      due("feed", school.feed(five[0], five[1], five[2], five[3], five[4]), from + 20);
    }
    due("end(n)", school.end(bytes.length), bytes.length);
  }

  /** statute(election) from a text. */
  static int statute(NationSchool school, String text, int election) {
    tape(school, text);
    return school.statute(election);
  }

  /** A text that has to be a STATUTE passed by nobody. */
  static int statute(NationSchool school, String text) {
    int number = statute(school, text, NationSchool.NONE);
    that("is a statute: " + text, number >= 0);
    return number;
  }
}
