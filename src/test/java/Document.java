import java.io.IOException;
import java.nio.charset.StandardCharsets;
import java.nio.file.Files;
import java.nio.file.Path;
import java.util.LinkedHashSet;
import java.util.Set;

/** The sentences of DOC.md that bind the class, cut at semicolons, each behind the name of its section or call. */
final class Document {
  private static final Path PLACE = Path.of("../shared/DOC.md");
  /** Sections whose words are the face, which FaceTest looks at, or bind nothing. */
  private static final Set<String> LEFT_OUT = Set.of("The public face", "Not promised");
  /** Heads of paragraphs, and what is said to be free. */
  private static final Set<String> NOT_TESTED = Set.of("Tracks", "Offers", "what later calls answer is free");

  private Document() {
  }

  static boolean isThere() {
    return Files.isReadable(PLACE);
  }

  static Set<String> sentences() throws IOException {
    Set<String> all = new LinkedHashSet<>();
    String where = "";
    for (String line : Files.readAllLines(PLACE, StandardCharsets.UTF_8)) {
      if (line.startsWith("#")) {
        where = line.replaceFirst("^#+ (Promise \\d+: )?", "");
      } else if (!LEFT_OUT.contains(where)) {
        addAll(all, where, line.replaceFirst("^`[^`]*\\)[^`]*`: ", ""));
      }
    }
    return all;
  }

  static String named(String where, String sentence) {
    return where + ": " + sentence;
  }

  private static void addAll(Set<String> all, String where, String paragraph) {
    for (String sentence : paragraph.split("(?<=\\.)\\)? +\\(?|; ")) {
      String plain = sentence.replace("`", "").replaceFirst("^- ", "").replaceFirst("\\.?\\)?$", "").trim();
      if (!plain.isEmpty() && !NOT_TESTED.contains(plain) && !plain.startsWith("Ahead of the calls ")) {
        all.add(named(where, plain));
      }
    }
  }
}
