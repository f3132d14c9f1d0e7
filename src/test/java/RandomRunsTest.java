import java.lang.reflect.InvocationTargetException;
import java.lang.reflect.Method;
import java.util.ArrayList;
import java.util.Arrays;
import java.util.LinkedHashMap;
import java.util.List;
import java.util.Map;
import java.util.Random;
import java.util.TreeMap;

/** Runs of 512 calls, drawn from fixed seeds: the class and SchoolModel have to answer the same. */
public final class RandomRunsTest {
  private static final int CALLS = 512;

  /** What each call is given, a letter an argument; arg() says what a letter stands for. */
  private static final Map<String, String> CALLED_WITH = new LinkedHashMap<>();

  static {
    String[] all = {"feed *****", "end t", "next D", "village ccl", "moved vl", "statute E", "fault q",
        "force dd", "claims vdd", "nation vdd", "sways v", "oath vr", "oaths S", "leave p", "personOf pq",
        "of pd", "heads Ndd", "sorted nsd", "fees pdd", "pay po", "feast no", "even pd", "masters o",
        "part n", "call", "vote epb", "close e", "electionOf eQ", "under es", "swing e", "undo e",
        "rector dd", "turn nd", "house m$$", "appeal h$", "rent h", "wish ph", "lodge", "lodged P",
        "worth px", "exodus q", "goes pq", "returns x", "judge B", "entry qy4l", "join", "joined 7",
        "rivals", "count C", "purse n", "keep k", "back k", "row Sw6", "write SiL", "paste SiSi8"};
    for (String one : all) {
      int blank = one.indexOf(' ');
      CALLED_WITH.put(blank < 0 ? one : one.substring(0, blank), blank < 0 ? "" : one.substring(blank + 1));
    }
  }

  private final Random random;
  private final NationSchool school = new NationSchool();
  private final SchoolModel model = new SchoolModel();
  private final List<String> said = new ArrayList<>();
  private final Map<String, Double> weights = new LinkedHashMap<>();
  private final double strange;
  private int calls = 0;

  private RandomRunsTest(long seed) {
    random = new Random(seed);
    strange = random.nextInt(3) == 0 ? 0.15 : 0.01;
    for (String name : CALLED_WITH.keySet()) {
      double usual = switch (name) {
        case "feed", "end", "statute" -> 0.05;
        case "oath", "vote" -> 3;
        case "keep", "back", "undo", "leave" -> 0.4;
        default -> 1;
      };
      weights.put(name, usual * Math.exp(random.nextGaussian()));
    }
    weights.put("text", 0.3 * Math.exp(random.nextGaussian()));
    weights.put("election", 0.6 * Math.exp(random.nextGaussian()));
  }

  public static void main(String[] args) throws Exception {
    int runs = args.length > 0 ? Integer.parseInt(args[0]) : 1500;
    long from = args.length > 1 ? Long.parseLong(args[1]) : 1;
    Map<String, int[]> answers = new TreeMap<>();
    int wrong = 0;
    for (long seed = from; seed < from + runs; seed++) {
      if (!new RandomRunsTest(seed).run(seed, answers)) {
        wrong++;
        if (wrong == 3) {
          break;
        }
      }
    }
    if (args.length > 2) {
      answers.forEach((name, n) -> System.out.println(name + ": " + n[0] + " calls, answered 0 or more: " + n[1]));
    }
    for (Method m : NationSchool.class.getDeclaredMethods()) {
      if (java.lang.reflect.Modifier.isPublic(m.getModifiers())) {
        Check.that(m.getName() + " was answered with 0 or more", answers.containsKey(m.getName())
            && answers.get(m.getName())[1] > 0);
      }
    }
    Check.due("runs with a wrong answer", wrong, 0);
    Check.finish();
  }

  private boolean run(long seed, Map<String, int[]> answers) throws Exception {
    boolean begun = ask("village", arguments("village"), answers)
        && ask("village", arguments("village"), answers) && feedText();
    Check.that("seed " + seed + " begins as due", begun);
    while (calls < CALLS) {
      String name = draw();
      boolean same = switch (name) {
        case "text" -> feedText();
        case "election" -> holdElection(answers);
        default -> ask(name, arguments(name), answers);
      };
      if (!same) {
        System.out.println("seed " + seed + ", the last calls:");
        said.subList(Math.max(0, said.size() - 30), said.size()).forEach(System.out::println);
        return false;
      }
    }
    return true;
  }

  private String draw() {
    double all = weights.values().stream().mapToDouble(w -> w).sum();
    double at = random.nextDouble() * all;
    for (Map.Entry<String, Double> w : weights.entrySet()) {
      at -= w.getValue();
      if (at < 0) {
        return w.getKey();
      }
    }
    return "count";
  }

  private boolean ask(String name, Object[] with, Map<String, int[]> answers) throws Exception {
    calls++;
    int due = answer(model, SchoolModel.class, name, with);
    int got;
    try {
      got = answer(school, NationSchool.class, name, with);
    } catch (InvocationTargetException e) {
      said.add(name + Arrays.toString(with) + " threw " + e.getCause() + ", due is " + due);
      return false;
    }
    said.add(name + Arrays.toString(with) + " answered " + got + (got == due ? "" : ", due is " + due));
    int[] n = answers.computeIfAbsent(name, k -> new int[2]);
    n[0]++;
    n[1] += got >= 0 ? 1 : 0;
    return got == due;
  }

  private static int answer(Object of, Class<?> type, String name, Object[] with) throws Exception {
    for (Method m : type.getDeclaredMethods()) {
      boolean isAsked = m.getName().equals(name) && m.getParameterCount() == with.length
          && !java.lang.reflect.Modifier.isPrivate(m.getModifiers());
      if (isAsked) {
        return (Integer) m.invoke(of, with);
      }
    }
    throw new NoSuchMethodException(name);
  }

  private Object[] arguments(String name) {
    String letters = CALLED_WITH.get(name);
    Object[] with = new Object[letters.length()];
    for (int i = 0; i < with.length; i++) {
      char letter = letters.charAt(i);
      if (letter == 'b') {
        with[i] = random.nextInt(3) > 0;
      } else if (letter == 'L') {
        with[i] = number8();
      } else {
        with[i] = random.nextDouble() < strange ? strangeNumber() : arg(letter);
      }
    }
    return with;
  }

  private int strangeNumber() {
    int[] some = {-1, -2, 4, 10, 40, 80, 100, 1000, 3599, 3600, 10000, 100000, Integer.MAX_VALUE,
        Integer.MIN_VALUE, Integer.MIN_VALUE + 1, Integer.MAX_VALUE - 1, 0, 1 << 16, -7, 20, 12, 7};
    return some[random.nextInt(some.length)];
  }

  private long number8() {
    return switch (random.nextInt(8)) {
      case 0 -> random.nextLong();
      case 1 -> (long) random.nextInt(4) + (1L << 8 * (1 + random.nextInt(7)));
      case 2 -> -1L;
      default -> (long) random.nextInt(4);
    };
  }

  /** A number out of so many there are, or now and then one beyond them. */
  private int one(int of) {
    return random.nextInt(Math.max(of, 1) + (random.nextInt(6) == 0 ? 1 : 0));
  }

  private int arg(char letter) {
    return switch (letter) {
      case '*' -> random.nextBoolean() ? random.nextInt() : 0x20202020;
      case 't' -> one(model.count(6) + 1);
      case 'D' -> random.nextInt(6) == 0 ? random.nextInt(500) : random.nextInt(30);
      case 'd' -> aDay();
      case 'c' -> random.nextInt(100);
      case 'l' -> random.nextInt(random.nextBoolean() ? 10 : 3);
      case 'v' -> one(model.count(1));
      case 'p' -> one(model.count(2));
      case 'P' -> random.nextBoolean() ? one(model.count(2)) : random.nextInt(81);
      case 's' -> one(model.count(3));
      case 'e' -> random.nextInt(3) > 0 ? model.count(4) - 1 : one(model.count(4));
      case 'E' -> random.nextInt(3) > 0 ? model.count(4) - 1 : -1;
      case 'h' -> one(model.count(5));
      case 'r', 'n', 'S' -> one(4);
      case 'w' -> random.nextInt(6) > 0 ? 1 : one(4);
      case 'N' -> one(5) - 1;
      case 'q' -> random.nextInt(3) > 0 ? random.nextInt(2) : one(4);
      case 'Q' -> one(8);
      case 'C' -> one(14);
      case 'k' -> one(3);
      case 'm' -> random.nextInt(4);
      case 'o' -> 1 + random.nextInt(random.nextBoolean() ? 60 : 12000);
      case '$' -> random.nextInt(1001);
      case 'x' -> random.nextInt(5) == 0 ? random.nextInt(101) : random.nextInt(12);
      case 'y' -> 100 + random.nextInt(6);
      case '4', '8' -> random.nextInt(4);
      case '6' -> random.nextInt(20) - 1;
      case 'i' -> random.nextInt(6);
      case '7' -> one(7);
      case 'B' -> random.nextInt() & random.nextInt() & (1 << Math.min(model.count(2), 31)) - 1;
      default -> throw new IllegalArgumentException("no letter " + letter);
    };
  }

  private int aDay() {
    int today = model.count(0);
    return switch (random.nextInt(6)) {
      case 0 -> random.nextInt(3600);
      case 1 -> today > 0 ? random.nextInt(today) : 0;
      case 2 -> Math.min(3599, today + random.nextInt(400));
      case 3 -> Math.max(0, today - 1);
      default -> today;
    };
  }

  private boolean feedText() {
    byte[] bytes = new StatuteWriter(random, model.count(1)).write();
    calls += 2 + (bytes.length + 19) / 20;
    boolean same = school.end(0) == model.end(0);
    for (int from = 0; from < bytes.length; from += 20) {
      int[] five = new int[5];
      for (int i = 0; i < 20; i++) {
        five[i / 4] = five[i / 4] << 8 | (from + i < bytes.length ? bytes[from + i] & 255 : 0);
      }
      same &= school.feed(five[0], five[1], five[2], five[3], five[4])
          == model.feed(five[0], five[1], five[2], five[3], five[4]);
    }
    same &= school.end(bytes.length) == model.end(bytes.length);
    int election = random.nextBoolean() ? -1 : model.count(4) - 1;
    int got = school.statute(election);
    int due = model.statute(election);
    said.add("statute(" + election + ") of \"" + new String(bytes, java.nio.charset.StandardCharsets.ISO_8859_1)
        + "\" answered " + got + ", due is " + due);
    return same && got == due && school.fault(0) == model.fault(0) && school.fault(1) == model.fault(1);
  }

  /** Calls and fills an ELECTION, so that there are some that many voted in. */
  private boolean holdElection(Map<String, int[]> answers) throws Exception {
    boolean same = ask("call", new Object[0], answers);
    int election = model.count(4) - 1;
    int mood = random.nextInt(4);
    for (int p = 0; same && p < Math.min(model.count(2), 14); p++) {
      if (random.nextInt(3) > 0) {
        same = ask("vote", new Object[] {election, p, random.nextInt(4) <= mood}, answers);
      }
    }
    if (same && random.nextInt(4) > 0) {
      same = ask("close", new Object[] {election}, answers)
          && ask("swing", new Object[] {election}, answers);
    }
    return same;
  }
}
