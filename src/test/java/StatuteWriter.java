import java.nio.charset.StandardCharsets;
import java.util.Random;

/** Draws texts: most of them are STATUTES, some are spoilt at some place. */
final class StatuteWriter {
  private final Random random;
  private final int villages;

  StatuteWriter(Random random, int villages) {
    this.random = random;
    this.villages = villages;
  }

  byte[] write() {
    StringBuilder text = new StringBuilder();
    int lines = random.nextInt(12) == 0 ? 14 + random.nextInt(5) : 1 + random.nextInt(7);
    for (int i = 0; i < lines; i++) {
      text.append(line()).append(blank(false)).append(';').append(blank(false));
    }
    if (random.nextInt(4) == 0) {
      spoil(text);
    }
    if (text.length() > 600) {
      text.setLength(600);
    }
    return text.toString().getBytes(StandardCharsets.ISO_8859_1);
  }

  private String blank(boolean needed) {
    int n = (needed ? 1 : 0) + (random.nextInt(5) == 0 ? 1 : 0);
    return random.nextInt(4) == 0 ? "\n".repeat(n) : " ".repeat(n);
  }

  private String line() {
    String b = blank(true);
    return switch (random.nextInt(9)) {
      case 0 -> "fee" + b + number(4) + b + number(10000);
      case 1 -> "vote" + b + (random.nextInt(4) == 0 ? "heads" : "nations");
      case 2 -> "part" + b + number(101);
      case 3 -> "turn" + b + (random.nextInt(30) == 0 ? number(101) : String.valueOf(1 + random.nextInt(8)));
      default -> "nation" + b + number(4) + conds();
    };
  }

  private String conds() {
    int n = random.nextInt(40) == 0 ? 4 : random.nextInt(4);
    StringBuilder all = new StringBuilder();
    for (int i = 0; i < n; i++) {
      all.append(blank(true)).append(i == 0 ? "if" : "and").append(blank(true)).append(cond());
    }
    return all.toString();
  }

  private String cond() {
    String not = random.nextInt(3) == 0 ? "not" + blank(true) : "";
    String b = blank(false);
    return not + switch (random.nextInt(5)) {
      case 0 -> "x" + b + "<=>".charAt(random.nextInt(3)) + b + number(100);
      case 1 -> "y" + b + "<=>".charAt(random.nextInt(3)) + b + number(100);
      case 2 -> "near" + blank(true) + number(Math.max(villages, 1)) + blank(true) + number(90);
      default -> "land" + b + "=" + b + random.nextInt(random.nextBoolean() ? 3 : 11);
    };
  }

  /** Below a bound; now and then at it, or with zeros ahead. */
  private String number(int below) {
    String zeros = random.nextInt(30) == 0 ? "000" : "";
    return zeros + (random.nextInt(60) == 0 ? below : random.nextInt(below));
  }

  private void spoil(StringBuilder text) {
    String[] pieces = {"nation", "if", "and", "not", "land", "x", "y", "near", "fee", "vote", "heads",
        "nations", "part", "turn", "<", ">", "=", ";", " ", "\n", "0", "7", "99999", ".", "A", "\t",
        "\u0000", "\u00ff", "\u0080", "\r", "nationx", "4294967297"};
    int at = random.nextInt(text.length() + 1);
    switch (random.nextInt(3)) {
      case 0 -> text.insert(at, pieces[random.nextInt(pieces.length)]);
      case 1 -> text.setLength(at);
      default -> text.delete(at, Math.min(text.length(), at + 1 + random.nextInt(6)));
    }
  }
}
