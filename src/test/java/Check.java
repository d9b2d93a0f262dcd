import java.util.LinkedHashSet;
import java.util.Set;

/** Compares answers with those that are due, and counts the wrong ones. */
final class Check {
  interface Call {
    Object answer();
  }

  interface Act {
    void happen();
  }

  private static final int MOST_TOLD = 40;

  private static int right = 0;
  private static int wrong = 0;
  private static final Set<String> SAID = new LinkedHashSet<>();
  private static String sentence = "";
  private static int beforeSentence = 0;

  private Check() {
  }

  /** Begins the test of a sentence of the document, which must hold at least one comparison. */
  static void says(String where, String words) {
    endSentence();
    sentence = Document.named(where, words);
    SAID.add(sentence);
    beforeSentence = right + wrong;
  }

  static void endSentence() {
    if (!sentence.isEmpty() && right + wrong == beforeSentence) {
      tell("nothing is compared for: " + sentence);
    }
    sentence = "";
  }

  static Set<String> said() {
    return SAID;
  }

  static void is(String what, Object want, Call call) {
    Object got = outcome(call);
    if (want.equals(got)) {
      right++;
    } else {
      tell(what + " answered " + got + ", due is " + want + (sentence.isEmpty() ? "" : " [" + sentence + "]"));
    }
  }

  static void quiet(String what, Act act) {
    is(what, "nothing", () -> {
      act.happen();
      return "nothing";
    });
  }

  static void noSuch(String what, Act act) {
    fails(what, IndexOutOfBoundsException.class, act);
  }

  static void badArgument(String what, Act act) {
    fails(what, IllegalArgumentException.class, act);
  }

  static void badState(String what, Act act) {
    fails(what, IllegalStateException.class, act);
  }

  static void fails(String what, Class<? extends RuntimeException> want, Act act) {
    is(what, want, () -> {
      act.happen();
      return "nothing";
    });
  }

  /** The answer of a call, or the class of what it throws. */
  static Object outcome(Call call) {
    try {
      return call.answer();
    } catch (RuntimeException e) {
      return e.getClass();
    }
  }

  static void end(String name) {
    endSentence();
    System.out.println(name + ": " + right + " answers right, " + wrong + " wrong");
    if (wrong > 0 || right == 0) {
      System.exit(1);
    }
  }

  private static void tell(String text) {
    wrong++;
    if (wrong <= MOST_TOLD) {
      System.out.println(text);
    }
  }
}
