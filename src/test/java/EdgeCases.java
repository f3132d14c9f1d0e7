import java.io.IOException;
import java.nio.file.Files;
import java.nio.file.Path;
import java.util.HashMap;
import java.util.Map;
import java.util.Set;
import java.util.TreeSet;
import java.util.function.Supplier;
import java.util.function.ToIntFunction;
import java.util.regex.Matcher;
import java.util.regex.Pattern;

/**
 * What the tests of edges share. Each edge is begun with the document's own words, so that whoever reads a wrong
 * answer sees which sentence it breaks; and a promise that names an answer (-2, NONE, ..) which no edge quotes
 * is a failure too.
 */
abstract class EdgeCases {
  static final int NONE = -1;
  static final int NOTHING = -2000000000;
  static final int MIN = Integer.MIN_VALUE;
  static final int MAX = Integer.MAX_VALUE;

  private static final Pattern ANSWER = Pattern.compile("-[2-8](?!,000)|NONE|NOTHING");
  private static final Map<String, String> SECTIONS = sections();
  private static final Map<String, Set<String>> QUOTED = new HashMap<>();
  private static String edge = "";

  private static Map<String, String> sections() {
    Map<String, String> all = new HashMap<>();
    try {
      String document = Files.readString(Path.of("../shared/DOC.md"));
      String terms = document.substring(document.indexOf("## Terms"), document.indexOf("## Promise 1:"));
      addSections(all, "Term ", Pattern.compile("(?m)^([IV]+)\\. "), terms);
      addSections(all, "", Pattern.compile("(?m)^## (Promise [0-9]+|Not promised)"), document);
    } catch (IOException e) {
      System.out.println("the document can't be read: " + e);
    }
    return all;
  }

  private static void addSections(Map<String, String> all, String ahead, Pattern head, String text) {
    Matcher m = head.matcher(text);
    String name = "";
    int from = 0;
    while (m.find()) {
      all.put(name, text.substring(from, m.start()).replaceAll("\\s+", " "));
      name = ahead + m.group(1);
      from = m.end();
    }
    all.put(name, text.substring(from).replaceAll("\\s+", " "));
  }

  /** Begins an edge of a promise, which has to say these words. */
  static void promise(int number, String words) {
    begin("Promise " + number, words);
  }

  /** Begins an edge of a Term, which has to say these words. */
  static void term(String number, String words) {
    begin("Term " + number, words);
  }

  private static void begin(String section, String words) {
    edge = section + ", \"" + words + "\": ";
    // Where there is no document to look into, the edges themselves are still tested.
    boolean isSaid = SECTIONS.isEmpty() || SECTIONS.getOrDefault(section, "").contains(words);
    Check.that(edge + "the document says so", isSaid);
    Matcher m = ANSWER.matcher(words);
    Set<String> quoted = QUOTED.computeIfAbsent(section, s -> new TreeSet<>());
    while (m.find()) {
      quoted.add(m.group());
    }
  }

  static void due(String call, long got, long want) {
    Check.due(edge + call, got, want);
  }

  static void that(String what, boolean holds) {
    Check.that(edge + what, holds);
  }

  /** The call is answered so, and nothing happens: a school that was not asked goes on in the same way. */
  static void refused(Supplier<NationSchool> made, String call, int want, ToIntFunction<NationSchool> asked) {
    NationSchool school = made.get();
    due(call, asked.applyAsInt(school), want);
    that("nothing happens by " + call, Probe.of(school).equals(Probe.of(made.get())));
  }

  static void refused(String call, int want, ToIntFunction<NationSchool> asked) {
    refused(Probe::richSchool, call, want, asked);
  }

  /** Each of these numbers, given to a call, is refused. */
  static void refusedEach(int[] numbers, String call, int want, Given asked) {
    for (int n : numbers) {
      refused(call + " of " + n, want, x -> asked.answer(x, n));
    }
  }

  interface Given {
    int answer(NationSchool school, int number);
  }

  static int[] each(int... numbers) {
    return numbers;
  }

  /** Ends the test: each answer that promises from one to another name has to be quoted by an edge. */
  static void finishPromises(int from, int to) {
    for (int number = from; number <= to; number++) {
      String section = "Promise " + number;
      edge = section + ": ";
      that("it has an edge", QUOTED.containsKey(section));
      Matcher m = ANSWER.matcher(SECTIONS.getOrDefault(section, ""));
      while (m.find()) {
        that("an edge quotes " + m.group(), QUOTED.getOrDefault(section, Set.of()).contains(m.group()));
      }
    }
    Check.finish();
  }
}
