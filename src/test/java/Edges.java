import java.io.IOException;
import java.nio.file.Files;
import java.nio.file.Path;
import java.util.ArrayList;
import java.util.List;
import java.util.TreeSet;

/**
 * The boundary cases of the document, sentence by sentence: each is a run on a new mill under the words that
 * name it. What is refused in a run is looked at twice: by its number, and whether it changed anything.
 */
final class Edges {
  private static final Path DOCUMENT = Path.of("../shared/DOC.md");

  private final Runs runs = new Runs();
  private final String document = read();
  private final TreeSet<String> refusals = new TreeSet<>();
  private final TreeSet<String> places = new TreeSet<>();

  /** Empty where the document can't be read: then the runs hold without their words being looked up. */
  private static String read() {
    try {
      return plain(Files.readString(DOCUMENT));
    } catch (IOException e) {
      System.out.println(DOCUMENT + " can't be read here");
      return "";
    }
  }

  private static String plain(String text) {
    return text.replaceAll("\\s+", " ");
  }

  /** A place is a part (I to V) or a promise's number; the sentence must stand in the document. */
  void edge(String place, String sentence, String... calls) {
    String title = place + " \"" + sentence + "\"";
    places.add(place);
    if (!document.isEmpty() && !document.contains(plain(sentence))) runs.complain(title, "the document does not say so");
    List<Runs.Said> run = Runs.read(calls);
    runs.say(title, run);
    List<int[]> before = new ArrayList<>();
    for (Runs.Said one : run) {
      if (one.refusal() != 0) lookWhatChanged(title, before, one);
      before.add(one.call);
    }
  }

  /** How a KIND rots takes long to see: it is looked at for the first refusal of each sort alone. */
  private void lookWhatChanged(String title, List<int[]> before, Runs.Said one) {
    boolean first = refusals.add(Calls.NAMES[one.call[0]] + " " + one.refusal());
    String changed = new Probe(before, one.call).whatChanged(one.refusal(), first);
    if (changed != null) runs.complain(title, Calls.tell(one.call) + " is refused, but " + changed);
  }

  void mustHave(String place) {
    if (!places.contains(place)) runs.complain(place, "has no run");
  }

  void mustHaveRefused(String name, int number) {
    if (!refusals.contains(name + " " + number)) runs.complain(name, "was never refused with " + number);
  }

  void end() {
    runs.end();
  }
}
