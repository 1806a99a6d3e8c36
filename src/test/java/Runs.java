import java.util.ArrayList;
import java.util.List;
import java.util.regex.Matcher;
import java.util.regex.Pattern;

/** Runs of calls on new mills, written as "rags(0,5)=5 heap(0,6)=-6": each call with the answer that is due. */
final class Runs {
  /** 5600 ounces of PULP of KIND 0 at HOUR 1; WATER is 60 on all DAYS. */
  static final String PULP = "kind(0,0,40,1)=1 rags(0,20000)=20000 heap(0,400)=0 day(0,0,60)=20"
      + " load(0,0,100)=1 load(1,0,100)=1 load(2,0,100)=1 load(3,0,100)=1 hours(1)=0 ";
  /** PULP, and a PAIR of WEIGHT 1 at VAT 0: POSTS will be done at HOURS 4, 7, 10 and so on. */
  static final String VAT = PULP + "pair(1)=0 vat(0,0)=1 ";
  /** 17 POSTS of 58 GOOD sheets each at HOUR 72 (DAY 3), then VAT 0 rests. */
  static final String SHEETS = VAT + "hours(51)=17 furnish(0,1)=0 hours(20)=0 hides(20)=20 sizeAll()=17 ";

  private static final int MOST_CALLS = 512;
  private static final Pattern CALL = Pattern.compile("(\\w+)\\(([^)]*)\\)\\s*=\\s*(-?\\d+)");

  /** A call as Calls has it, and the answer that is due. */
  static final class Said {
    final int[] call;
    final int due;

    Said(int[] call, int due) {
      this.call = call;
      this.due = due;
    }

    /** The number of the refusal that is due, or 0. */
    int refusal() {
      String name = Calls.NAMES[call[0]];
      if (name.equals("fill")) return due > 1000000000 ? 1000000000 - due : 0;
      return name.equals("count") || due >= 0 || due < -6 ? 0 : due;
    }
  }

  private int wrong = 0;
  private int said = 0;

  /** The same calls n times, # being 0 and so on. */
  static String times(int n, String calls) {
    StringBuilder all = new StringBuilder();
    for (int i = 0; i < n; i++) all.append(calls.replace("#", String.valueOf(i))).append(' ');
    return all.toString();
  }

  static List<Said> read(String... calls) {
    List<Said> run = new ArrayList<>();
    for (String part : calls) {
      Matcher m = CALL.matcher(part);
      int end = 0;
      while (m.find()) {
        if (!part.substring(end, m.start()).isBlank()) throw new IllegalArgumentException(part);
        end = m.end();
        run.add(new Said(call(m.group(1), m.group(2)), Integer.parseInt(m.group(3))));
      }
      if (!part.substring(end).isBlank()) throw new IllegalArgumentException(part.substring(end));
    }
    if (run.size() > MOST_CALLS) throw new IllegalArgumentException("too many calls: " + run.size());
    return run;
  }

  private static int[] call(String name, String arguments) {
    int[] c = new int[6];
    c[0] = Calls.numberOf(name);
    String[] words = arguments.isBlank() ? new String[0] : arguments.split(",");
    if (words.length != Calls.ARGUMENTS[c[0]]) throw new IllegalArgumentException(name + "(" + arguments + ")");
    for (int i = 0; i < words.length; i++) c[i + 1] = number(words[i].trim());
    return c;
  }

  private static int number(String word) {
    switch (word) {
      case "true": return 1;
      case "false": return 0;
      case "least": return Integer.MIN_VALUE;
      case "most": return Integer.MAX_VALUE;
      default: return Integer.parseInt(word);
    }
  }

  void say(String title, List<Said> run) {
    PaperMill mill = new PaperMill();
    for (Said one : run) {
      int got = Calls.on(mill, one.call);
      said++;
      if (got != one.due) complain(title, Calls.tell(one.call) + " answered " + got + ", due is " + one.due);
    }
  }

  void complain(String title, String what) {
    wrong++;
    System.out.println(title + ": " + what);
  }

  void end() {
    System.out.println(wrong == 0 ? "all " + said + " answers are as due" : wrong + " answers are not as due");
    if (wrong != 0) System.exit(1);
  }
}
