import java.lang.reflect.Field;
import java.lang.reflect.Method;
import java.lang.reflect.Modifier;
import java.nio.file.Files;
import java.nio.file.Path;
import java.util.ArrayList;
import java.util.Arrays;
import java.util.List;
import java.util.Set;
import java.util.TreeSet;
import java.util.regex.Matcher;
import java.util.regex.Pattern;

/** The rules of LANGUAGE.md that can be seen from outside, and the face of the document. */
public final class LanguageTest {
  private static final String FACE = "feed:5 end:1 next:1 village:3 moved:2 statute:1 fault:1 force:2 claims:3"
      + " nation:3 sways:1 oath:2 oaths:1 leave:1 personOf:2 of:2 heads:3 sorted:3 fees:3 pay:2 feast:2 even:2"
      + " masters:1 part:1 call:0 vote:3 close:1 electionOf:2 under:2 swing:1 undo:1 rector:2 turn:2 house:3"
      + " appeal:2 rent:1 wish:2 lodge:0 lodged:1 worth:2 exodus:1 goes:2 returns:1 judge:1 entry:4 join:0"
      + " joined:1 rivals:0 count:1 purse:1 keep:1 back:1 row:3 write:3 paste:5";

  public static void main(String[] args) throws Exception {
    Path file = Path.of("src/main/java/NationSchool.java");
    String source = Files.readString(file);
    String code = withoutTextsAndComments(source);
    theFace();
    names();
    sizes();
    words(source, code);
    methodsAreShort(code);
    Check.finish();
  }

  private static List<Class<?>> classes() {
    List<Class<?>> all = new ArrayList<>(List.of(NationSchool.class));
    all.addAll(Arrays.asList(NationSchool.class.getDeclaredClasses()));
    return all;
  }

  private static void theFace() {
    Set<String> due = new TreeSet<>(List.of(FACE.split(" ")));
    Set<String> got = new TreeSet<>();
    for (Method m : NationSchool.class.getDeclaredMethods()) {
      if (!m.isSynthetic() && !Modifier.isPrivate(m.getModifiers())) {
        Check.that(m + " is public", Modifier.isPublic(m.getModifiers()));
        Check.that(m + " answers an int", m.getReturnType() == int.class);
        got.add(m.getName() + ":" + m.getParameterCount());
      }
    }
    Check.that("the face is the document's: " + got, got.equals(due));
    for (Field f : NationSchool.class.getDeclaredFields()) {
      boolean isNone = f.getName().equals("NONE") && Modifier.isPublic(f.getModifiers());
      Check.that(f + " is private", isNone || Modifier.isPrivate(f.getModifiers()));
    }
    Check.due("constructors", NationSchool.class.getConstructors().length, 1);
    Check.that("final", Modifier.isFinal(NationSchool.class.getModifiers()));
  }

  private static void names() {
    Set<String> face = new TreeSet<>();
    for (String one : FACE.split(" ")) {
      face.add(one.substring(0, one.indexOf(':')));
    }
    for (Class<?> c : classes()) {
      Check.that(c + " is static", c == NationSchool.class || Modifier.isStatic(c.getModifiers()));
      for (Method m : c.getDeclaredMethods()) {
        boolean isFace = c == NationSchool.class && Modifier.isPublic(m.getModifiers());
        Check.that(m + " bears no name of the face", isFace || !face.contains(m.getName()));
      }
    }
  }

  private static void sizes() {
    Check.that("classes: " + classes().size(), classes().size() <= 12);
    for (Class<?> c : classes()) {
      long fields = Arrays.stream(c.getDeclaredFields()).filter(f -> !Modifier.isStatic(f.getModifiers())).count();
      Check.that(c + " has " + fields + " fields", fields <= 20);
      for (Field f : c.getDeclaredFields()) {
        boolean isStatic = Modifier.isStatic(f.getModifiers());
        Check.that(f + " is final if static", !isStatic || Modifier.isFinal(f.getModifiers()));
      }
      for (Method m : c.getDeclaredMethods()) {
        Check.that(m + " takes seven at most", m.getParameterCount() <= 7);
      }
    }
  }

  private static void words(String source, String code) {
    String[] forbidden = {"throw", "throws", "try", "catch", "finally", "synchronized", "assert", "hashCode",
        "toString", "Object", "System.out", "static \\{", "->", "::", "new \\w+\\(\\) \\{", "var ", "equals",
        "volatile", "transient", "native", "Exact", "NaN", "package "};
    for (String word : forbidden) {
      boolean isWord = Character.isLetter(word.charAt(0)) && word.matches("\\w+");
      Matcher m = Pattern.compile(isWord ? "\\b" + word + "\\b" : word).matcher(code);
      Check.that("no " + word, !m.find());
    }
    Matcher imports = Pattern.compile("^import (.*);$", Pattern.MULTILINE).matcher(code);
    while (imports.find()) {
      Check.that("import " + imports.group(1), imports.group(1).matches("java\\.util\\.(Arrays|ArrayList|List)"));
    }
    Check.that("signs 1 to 127 alone", source.chars().allMatch(c -> c > 0 && c < 128));
    Matcher library = Pattern.compile("\\b(Math|Integer|Long|Arrays|System)\\.(\\w+)").matcher(code);
    while (library.find()) {
      String used = library.group();
      Check.that(used, used.matches("Math\\.(min|max|abs)|Integer\\.(bitCount|signum)|Arrays\\.fill|System\\.arraycopy"));
    }
  }

  private static void methodsAreShort(String code) {
    String[] lines = code.split("\n");
    int begun = -1;
    String end = "";
    for (int i = 0; i < lines.length; i++) {
      Matcher m = Pattern.compile("^( {4}| {8})(?!return|private static final class)\\w.*\\) \\{$").matcher(lines[i]);
      if (begun < 0 && m.find()) {
        begun = i;
        end = m.group(1) + "}";
      } else if (begun >= 0 && lines[i].equals(end)) {
        Check.that("short: " + lines[begun].strip(), i - begun < 60);
        begun = -1;
      }
    }
  }

  private static String withoutTextsAndComments(String source) {
    return source.replaceAll("(?s)/\\*.*?\\*/", "").replaceAll("//[^\n]*", "")
        .replaceAll("\"[^\"\n]*\"", "\"\"").replaceAll("'(\\\\.|[^'])'", "' '");
  }
}
