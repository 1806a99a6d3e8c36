import java.io.IOException;
import java.lang.reflect.Method;
import java.lang.reflect.Modifier;
import java.nio.file.Files;
import java.nio.file.Path;
import java.util.Arrays;
import java.util.HashSet;
import java.util.Set;
import java.util.regex.Matcher;
import java.util.regex.Pattern;

/** The rules of LANGUAGE.md that can be seen from the text and the face. Run from the project's folder. */
public final class LanguageTest {
  private static final String[] RULED_OUT = {
    "\\bthrow\\b", "\\btry\\b", "\\bcatch\\b", "\\bsynchronized\\b", "\\bassert\\b", "->", "::", "\\bdouble\\b", "\\bfloat\\b",
    "\\bObject\\b", "\\bHashMap\\b", "\\bSystem\\.(?!arraycopy\\b)", "Exact\\b", "\\bRandom\\b", "\\bThread\\b", "\\bprotected\\b",
    "\\bequals\\b", "\\bhashCode\\b", "\\btoString\\b", "\\bpackage\\b", "\\bimport (?!java\\.util\\.Arrays;)", "\\bString\\b"};
  private static int wrong = 0;

  public static void main(String[] args) throws IOException {
    String text = Files.readString(Path.of("src/main/java/PaperMill.java"));
    String code = text.replaceAll("(?s)/\\*.*?\\*/", " ").replaceAll("//[^\n]*", " ");
    for (String rule : RULED_OUT) due("not in the text: " + rule, !Pattern.compile(rule).matcher(code).find());
    due("signs 1 to 127", text.chars().allMatch(sign -> sign < 128));
    face();
    classes();
    methods(code);
    System.out.println(wrong == 0 ? "the rules are kept" : wrong + " rules are not kept");
    if (wrong != 0) System.exit(1);
  }

  private static void due(String rule, boolean kept) {
    if (kept) return;
    wrong++;
    System.out.println("broken: " + rule);
  }

  private static void face() {
    Class<?> mill = PaperMill.class;
    due("public and final", Modifier.isPublic(mill.getModifiers()) && Modifier.isFinal(mill.getModifiers()));
    due("one constructor", mill.getDeclaredConstructors().length == 1 && mill.getConstructors().length == 1);
    Set<String> face = new HashSet<>(Arrays.asList(Calls.NAMES));
    int found = 0;
    for (Method m : mill.getDeclaredMethods()) {
      if (m.isSynthetic()) continue;
      boolean isPublic = Modifier.isPublic(m.getModifiers());
      due("of the face or private: " + m, isPublic ? face.contains(m.getName()) : Modifier.isPrivate(m.getModifiers()));
      due("no private one has a public one's name: " + m, isPublic || !face.contains(m.getName()));
      if (isPublic) found++;
    }
    due("the whole face", found == Calls.NAMES.length);
    Arrays.stream(mill.getDeclaredFields()).forEach(f -> due("private: " + f, Modifier.isPrivate(f.getModifiers())));
  }

  private static void classes() {
    due("at most some twelve classes", PaperMill.class.getDeclaredClasses().length <= 11);
    for (Class<?> inside : PaperMill.class.getDeclaredClasses()) {
      due("static: " + inside, Modifier.isStatic(inside.getModifiers()) && inside.getDeclaredClasses().length == 0);
      due("some twenty fields: " + inside, inside.getDeclaredFields().length <= 20);
      for (Method m : inside.getDeclaredMethods()) due("seven parameters: " + m, m.getParameterCount() <= 7);
    }
  }

  /** Methods stay short: from a line that opens one to the line that closes it at the same depth. */
  private static void methods(String code) {
    Matcher m = Pattern.compile("(?m)^( +)[\\w\\[\\] ]+\\([^)]*\\) \\{$").matcher(code);
    while (m.find()) {
      int end = code.indexOf("\n" + m.group(1) + "}", m.end());
      long lines = code.substring(m.start(), end).lines().count();
      due("some sixty lines: " + m.group().trim(), lines <= 40);
    }
  }
}
