import java.io.IOException;
import java.util.Set;

/** A test for each sentence of the document, by its own words; and that no sentence is without one. */
public final class SentenceTest {
  private SentenceTest() {
  }

  public static void main(String[] args) throws IOException {
    WrongCallSentences.test();
    TrackSentences.test();
    TrainSentences.test();
    MinuteSentences.test();
    BookingSentences.test();
    WaggonSentences.test();
    Check.endSentence();
    compareWithDocument();
    Check.end("SentenceTest");
  }

  private static void compareWithDocument() throws IOException {
    if (!Document.isThere()) {
      System.out.println("../shared/DOC.md is not there: the sentences are not compared with it");
      return;
    }
    Set<String> written = Document.sentences();
    Set<String> said = Check.said();
    for (String sentence : written) {
      Check.is("a test says: " + sentence, true, () -> said.contains(sentence));
    }
    for (String sentence : said) {
      Check.is("the document says: " + sentence, true, () -> written.contains(sentence));
    }
  }
}
