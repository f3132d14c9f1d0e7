import java.nio.charset.StandardCharsets;
import java.util.ArrayList;
import java.util.List;
import java.util.regex.Matcher;
import java.util.regex.Pattern;

/** Term II for SchoolModel: a text is cut into TOKENS first, then matched against each kind of LINE. */
final class StatuteText {
  private static final Pattern TOKEN = Pattern.compile("[ \\n]+|([a-z]+|[0-9]+|[<>=;])|.", Pattern.DOTALL);

  private record Token(String text, int place) { }
  private record Cond(boolean not, String what, String sign, int number, SchoolModel.Village near) { }
  private record Line(String word, int first, int second, String how, List<Cond> conds) { }

  private static final class Fault extends RuntimeException {
    private static final long serialVersionUID = 1L;
    final int kind;
    final int place;

    Fault(int kind, int place) {
      this.kind = kind;
      this.place = place;
    }
  }

  final int fault;
  final int place;
  private final List<Token> tokens = new ArrayList<>();
  private final List<SchoolModel.Village> villages;
  private final List<Line> lines = new ArrayList<>();
  private int next = 0;

  StatuteText(byte[] tape, List<SchoolModel.Village> villages) {
    this.villages = List.copyOf(villages);
    String text = new String(tape, StandardCharsets.ISO_8859_1);
    Matcher m = TOKEN.matcher(text);
    while (m.find()) {
      if (m.group(1) != null) {
        tokens.add(new Token(m.group(1), m.start()));
      } else if (!m.group().matches("[ \\n]+")) {
        tokens.add(new Token("?", m.start()));
      }
    }
    tokens.add(new Token("", text.length()));
    int kind = 0;
    int where = SchoolModel.NONE;
    try {
      readAll();
    } catch (Fault f) {
      kind = f.kind;
      where = f.place;
    }
    fault = kind;
    place = where;
  }

  private Token peek() {
    return tokens.get(next);
  }

  private Token take(String pattern) {
    Token t = peek();
    if (!t.text.matches(pattern)) {
      throw new Fault(1, t.place);
    }
    next++;
    return t;
  }

  private int number(int least, int most) {
    Token t = take("[0-9]+");
    java.math.BigInteger n = new java.math.BigInteger(t.text);
    if (n.compareTo(java.math.BigInteger.valueOf(least)) < 0
        || n.compareTo(java.math.BigInteger.valueOf(most)) > 0) {
      throw new Fault(2, t.place);
    }
    return n.intValue();
  }

  private void readAll() {
    while (!peek().text.isEmpty()) {
      Token word = take("nation|fee|vote|part|turn");
      if (lines.size() == 16) {
        throw new Fault(3, word.place);
      }
      lines.add(line(word.text));
      take(";");
    }
  }

  private Line line(String word) {
    switch (word) {
      case "nation":
        int nation = number(0, 3);
        return new Line(word, nation, 0, "", conds());
      case "fee":
        int rank = number(0, 3);
        return new Line(word, rank, number(0, 9999), "", List.of());
      case "vote":
        return new Line(word, 0, 0, take("heads|nations").text, List.of());
      case "part":
        return new Line(word, number(0, 9999), 0, "", List.of());
      default:
        return new Line(word, number(1, 99), 0, "", List.of());
    }
  }

  private List<Cond> conds() {
    List<Cond> conds = new ArrayList<>();
    String link = "if";
    while (peek().text.equals(link)) {
      next++;
      Token first = take("not|land|x|y|near");
      if (conds.size() == 3) {
        throw new Fault(3, first.place);
      }
      boolean not = first.text.equals("not");
      conds.add(cond(not, not ? take("land|x|y|near").text : first.text));
      link = "and";
    }
    return conds;
  }

  private Cond cond(boolean not, String what) {
    if (what.equals("near")) {
      int village = number(0, villages.size() - 1);
      return new Cond(not, what, "", number(0, 9999), villages.get(village));
    }
    String sign = take(what.equals("land") ? "=" : "[<=>]").text;
    return new Cond(not, what, sign, number(0, 9999), null);
  }

  // ---- what it says

  /** The NATIONS of the LINES that hold, in their order. */
  List<Integer> nationsOf(int x, int y, int land) {
    return lines.stream().filter(l -> l.word.equals("nation"))
        .filter(l -> l.conds.stream().allMatch(c -> holds(c, x, y, land) != c.not))
        .map(Line::first).toList();
  }

  private static boolean holds(Cond c, int x, int y, int land) {
    if (c.what.equals("near")) {
      return Math.hypot(x - c.near.x(), y - c.near.y()) <= c.number + 1e-9;
    }
    int value = c.what.equals("x") ? x : c.what.equals("y") ? y : land;
    return c.sign.equals("<") ? value < c.number : c.sign.equals(">") ? value > c.number : value == c.number;
  }

  int fee(int rank) {
    return lines.stream().filter(l -> l.word.equals("fee") && l.first == rank)
        .reduce(0, (a, l) -> l.second, (a, b) -> b);
  }

  boolean byNations() {
    return lines.stream().filter(l -> l.word.equals("vote"))
        .reduce(false, (a, l) -> l.how.equals("nations"), (a, b) -> b);
  }

  int part() {
    return lines.stream().filter(l -> l.word.equals("part")).reduce(50, (a, l) -> l.first, (a, b) -> b);
  }

  int turn() {
    return lines.stream().filter(l -> l.word.equals("turn")).reduce(3, (a, l) -> l.first, (a, b) -> b);
  }
}
