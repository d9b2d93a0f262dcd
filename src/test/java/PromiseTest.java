/** For each promise its ordinary answers, its edges, and its exceptions, by hand from the document. */
public final class PromiseTest {
  private static final int NONE = Warpyard.NONE;

  private interface Told {
    void to(Warpyard yard);
  }

  private PromiseTest() {
  }

  public static void main(String[] args) {
    newObject();
    addTrain();
    hold();
    delay();
    reverse();
    throwSwitch();
    blockAndTrainOn();
    trainsThatMove();
    deadEnds();
    switches();
    trainsInTheWay();
    run();
    reaches();
    book();
    bookingsInTheWay();
    canBook();
    whatBecomesOfBookings();
    addWaggon();
    offer();
    couple();
    leave();
    lateOffers();
    waggonAt();
    nothingChanges();
    Check.end("PromiseTest");
  }

  private static void newObject() {
    Warpyard x = new Warpyard();
    Check.is("clock", 0, () -> x.clock());
    Check.is("earned", 0, () -> x.earned());
    for (int i = 0; i < 8; i++) {
      int block = i;
      Check.is("trainOn " + block, NONE, () -> x.trainOn(block));
    }
    Check.noSuch("block(0)", () -> x.block(0));
    Check.noSuch("booking(0)", () -> x.booking(0));
    Check.is("waggonAt(6, 0)", NONE, () -> x.waggonAt(6, 0));
    Check.is("waggonAt(7, 0)", NONE, () -> x.waggonAt(7, 0));
    Check.noSuch("waggonAt(10, 0)", () -> x.waggonAt(10, 0));
    Check.is("switch 0 is straight at first", true, () -> x.throwSwitch(0));
    Check.is("switch 1 is straight at first", true, () -> x.throwSwitch(1));
    Check.is("run", 0, () -> x.run(100));
    Check.is("clock", 100, () -> x.clock());
    Warpyard y = new Warpyard();
    Check.is("another yard's clock", 0, () -> y.clock());
  }

  private static void addTrain() {
    Warpyard x = new Warpyard();
    Check.noSuch("addTrain(-1)", () -> x.addTrain(-1, true));
    Check.noSuch("addTrain(8)", () -> x.addTrain(8, true));
    Check.noSuch("addTrain(min)", () -> x.addTrain(Integer.MIN_VALUE, true));
    Check.is("addTrain", 0, () -> x.addTrain(7, true));
    Check.badState("addTrain on it", () -> x.addTrain(7, false));
    Check.is("addTrain", 1, () -> x.addTrain(0, false));
    Check.is("addTrain", 2, () -> x.addTrain(3, true));
    Check.is("addTrain", 3, () -> x.addTrain(5, false));
    Check.badState("a fifth", () -> x.addTrain(1, true));
    Check.badState("a fifth on another", () -> x.addTrain(7, true));
    Check.noSuch("a fifth on no block", () -> x.addTrain(8, true));
    Check.is("block", 7, () -> x.block(0));
    Check.is("block", 0, () -> x.block(1));
    Check.is("block", 3, () -> x.block(2));
    Check.is("block", 5, () -> x.block(3));
    Check.is("isRight", true, () -> x.isRight(0));
    Check.is("isRight", false, () -> x.isRight(1));
    Check.is("isRight", true, () -> x.isRight(2));
    Check.is("isRight", false, () -> x.isRight(3));
    Check.noSuch("isRight", () -> x.isRight(4));
    Check.noSuch("isRight", () -> x.isRight(-1));
    Warpyard y = new Warpyard();
    y.addTrain(1, true);
    y.book(0, 4, 0, 9);
    Check.is("addTrain on a block booked for another", 1, () -> y.addTrain(4, true));
  }

  private static void hold() {
    Warpyard x = new Warpyard();
    Check.noSuch("hold(0)", () -> x.hold(0, true));
    x.addTrain(0, true);
    x.addTrain(5, true);
    Check.noSuch("hold(2)", () -> x.hold(2, true));
    Check.noSuch("hold(-1)", () -> x.hold(-1, false));
    Check.is("let go what is not held", false, () -> x.hold(0, false));
    Check.is("hold", true, () -> x.hold(0, true));
    Check.is("hold again", false, () -> x.hold(0, true));
    x.hold(1, true);
    Check.is("run", 0, () -> x.run(3));
    Check.is("held", 0, () -> x.block(0));
    Check.is("a held train does not turn at a dead end", true, () -> x.isRight(1));
    Check.is("let go", true, () -> x.hold(0, false));
    Check.is("run", 1, () -> x.run(1));
    Check.is("the other is held still", 5, () -> x.block(1));
  }

  private static void delay() {
    Warpyard x = new Warpyard();
    Check.noSuch("delay of no train, minutes out of range", () -> x.delay(0, 0));
    x.addTrain(0, true);
    Check.noSuch("delay(1)", () -> x.delay(1, 1));
    Check.noSuch("delay(-1)", () -> x.delay(-1, 1));
    Check.badArgument("delay 0", () -> x.delay(0, 0));
    Check.badArgument("delay -1", () -> x.delay(0, -1));
    Check.badArgument("delay 101", () -> x.delay(0, 101));
    Check.badArgument("delay max", () -> x.delay(0, Integer.MAX_VALUE));
    Check.is("delay", 1, () -> x.delay(0, 1));
    Check.is("delay", 3, () -> x.delay(0, 2));
    Check.is("run", 0, () -> x.run(3));
    Check.is("run", 1, () -> x.run(1));
    Warpyard y = new Warpyard();
    y.addTrain(5, true);
    for (int i = 1; i <= 9; i++) {
      int due = 100 * i;
      Check.is("delay", due, () -> y.delay(0, 100));
    }
    Check.is("delay", 999, () -> y.delay(0, 99));
    Check.badArgument("delay above 1000", () -> y.delay(0, 2));
    Check.is("delay", 1000, () -> y.delay(0, 1));
    Check.badArgument("delay above 1000", () -> y.delay(0, 1));
    y.run(1);
    Check.is("a minute less", 1000, () -> y.delay(0, 1));
    y.hold(0, true);
    y.run(100);
    Check.is("a held train's delay grows less too", 901, () -> y.delay(0, 1));
    Check.is("a delayed train does not turn at a dead end", true, () -> y.isRight(0));
  }

  private static void reverse() {
    Warpyard x = new Warpyard();
    Check.noSuch("reverse(0)", () -> x.reverse(0));
    x.addTrain(2, true);
    Check.noSuch("reverse(1)", () -> x.reverse(1));
    Check.noSuch("reverse(-1)", () -> x.reverse(-1));
    Check.is("reverse", false, () -> x.reverse(0));
    Check.is("isRight", false, () -> x.isRight(0));
    Check.is("block", 2, () -> x.block(0));
    x.run(1);
    Check.is("block", 1, () -> x.block(0));
    x.hold(0, true);
    x.delay(0, 1);
    Check.is("reverse", true, () -> x.reverse(0));
    Check.is("isRight", true, () -> x.isRight(0));
  }

  private static void throwSwitch() {
    Warpyard x = new Warpyard();
    Check.noSuch("throwSwitch(2)", () -> x.throwSwitch(2));
    Check.noSuch("throwSwitch(-1)", () -> x.throwSwitch(-1));
    Check.is("throwSwitch", true, () -> x.throwSwitch(1));
    Check.is("throwSwitch", true, () -> x.throwSwitch(0));
    Check.is("throwSwitch", false, () -> x.throwSwitch(1));
    Check.is("throwSwitch", false, () -> x.throwSwitch(0));
    Check.is("throwSwitch", true, () -> x.throwSwitch(0));
  }

  private static void blockAndTrainOn() {
    Warpyard x = new Warpyard();
    x.addTrain(1, true);
    Check.noSuch("block(1)", () -> x.block(1));
    Check.noSuch("block(-1)", () -> x.block(-1));
    Check.noSuch("block(max)", () -> x.block(Integer.MAX_VALUE));
    Check.noSuch("trainOn(-1)", () -> x.trainOn(-1));
    Check.noSuch("trainOn(8)", () -> x.trainOn(8));
    x.addTrain(7, true);
    Check.is("trainOn", 0, () -> x.trainOn(1));
    Check.is("trainOn", 1, () -> x.trainOn(7));
    Check.is("trainOn", NONE, () -> x.trainOn(0));
    x.run(1);
    Check.is("trainOn", NONE, () -> x.trainOn(1));
    Check.is("trainOn", 0, () -> x.trainOn(2));
  }

  private static void trainsThatMove() {
    Warpyard x = new Warpyard();
    x.addTrain(0, true);
    for (int i = 1; i <= 5; i++) {
      int block = i;
      Check.is("run", 1, () -> x.run(1));
      Check.is("block", block, () -> x.block(0));
    }
    Check.is("it turns round and stays", 0, () -> x.run(1));
    Check.is("block", 5, () -> x.block(0));
    Check.is("isRight", false, () -> x.isRight(0));
    for (int i = 4; i >= 0; i--) {
      int block = i;
      Check.is("run", 1, () -> x.run(1));
      Check.is("block", block, () -> x.block(0));
    }
    Check.is("it turns round and stays", 0, () -> x.run(1));
    Check.is("isRight", true, () -> x.isRight(0));
    Check.is("clock", 12, () -> x.clock());
  }

  private static void deadEnds() {
    for (int i = 0; i < 4; i++) {
      int block = new int[] {0, 5, 6, 7}[i];
      boolean toRight = block != 0;
      Warpyard x = new Warpyard();
      x.throwSwitch(0);
      x.throwSwitch(1);
      x.addTrain(block, toRight);
      Check.is("run at a dead end", 0, () -> x.run(1));
      Check.is("block", block, () -> x.block(0));
      Check.is("isRight", !toRight, () -> x.isRight(0));
      Check.is("run from a dead end", 1, () -> x.run(1));
      Check.is("block", new int[] {1, 4, 1, 3}[i], () -> x.block(0));
    }
  }

  private static void switches() {
    goes(1, true, 0, 2);
    goes(1, true, 1, 6);
    goes(2, false, 0, 1);
    goes(2, false, 1, 2);
    goes(6, false, 0, 6);
    goes(6, false, 1, 1);
    goes(3, true, 0, 4);
    goes(3, true, 2, 7);
    goes(4, false, 0, 3);
    goes(4, false, 2, 4);
    goes(7, false, 0, 7);
    goes(7, false, 2, 3);
    goes(1, true, 2, 2);
    goes(3, true, 1, 4);
    for (int turned = 0; turned < 4; turned++) {
      goes(0, true, turned, 1);
      goes(1, false, turned, 0);
      goes(2, true, turned, 3);
      goes(3, false, turned, 2);
      goes(4, true, turned, 5);
      goes(5, false, turned, 4);
    }
  }

  private static void goes(int from, boolean toRight, int turned, int to) {
    Warpyard x = new Warpyard();
    if ((turned & 1) != 0) {
      x.throwSwitch(0);
    }
    if ((turned & 2) != 0) {
      x.throwSwitch(1);
    }
    x.addTrain(from, toRight);
    String what = "from " + from + (toRight ? " right" : " left") + " with " + turned;
    Check.is(what, from == to ? 0 : 1, () -> x.run(1));
    Check.is(what, to, () -> x.block(0));
    Check.is(what, toRight, () -> x.isRight(0));
  }

  private static void trainsInTheWay() {
    Warpyard x = new Warpyard();
    x.addTrain(1, true);
    x.addTrain(0, true);
    Check.is("the second follows the first in the same minute", 2, () -> x.run(1));
    Check.is("block", 1, () -> x.block(1));
    Warpyard y = new Warpyard();
    y.addTrain(0, true);
    y.addTrain(1, true);
    Check.is("the first finds the second in its way", 1, () -> y.run(1));
    Check.is("block", 0, () -> y.block(0));
    Warpyard z = new Warpyard();
    z.addTrain(2, true);
    z.addTrain(3, false);
    Check.is("head to head", 0, () -> z.run(20));
    Check.is("isRight", true, () -> z.isRight(0));
    Check.is("isRight", false, () -> z.isRight(1));
  }

  private static void run() {
    Warpyard x = new Warpyard();
    x.addTrain(0, true);
    Check.badArgument("run(0)", () -> x.run(0));
    Check.badArgument("run(-1)", () -> x.run(-1));
    Check.badArgument("run(101)", () -> x.run(101));
    Check.badArgument("run(max)", () -> x.run(Integer.MAX_VALUE));
    Check.is("run(100)", 84, () -> x.run(100));
    Check.is("clock", 100, () -> x.clock());
    for (int i = 0; i < 48; i++) {
      x.run(100);
    }
    x.run(99);
    Check.is("clock", 4999, () -> x.clock());
    Check.badState("run(2)", () -> x.run(2));
    Check.badArgument("run(101)", () -> x.run(101));
    Check.is("clock", 4999, () -> x.clock());
    x.run(1);
    Check.is("clock", 5000, () -> x.clock());
    Check.badState("run(1)", () -> x.run(1));
    Check.badArgument("run(0)", () -> x.run(0));
    Check.is("clock", 5000, () -> x.clock());
  }

  private static void reaches() {
    Warpyard x = new Warpyard();
    Check.noSuch("reaches(0, 0)", () -> x.reaches(0, 0));
    x.addTrain(2, false);
    Check.noSuch("reaches(0, 8)", () -> x.reaches(0, 8));
    Check.noSuch("reaches(0, -1)", () -> x.reaches(0, -1));
    Check.noSuch("reaches(1, 0)", () -> x.reaches(1, 0));
    Check.noSuch("reaches(-1, 0)", () -> x.reaches(-1, 0));
    Check.is("where it stands", 0, () -> x.reaches(0, 2));
    Check.is("reaches 1", 1, () -> x.reaches(0, 1));
    Check.is("reaches 0", 2, () -> x.reaches(0, 0));
    Check.is("reaches 3", 6, () -> x.reaches(0, 3));
    Check.is("reaches 6", NONE, () -> x.reaches(0, 6));
    x.throwSwitch(1);
    Check.is("reaches 7", 7, () -> x.reaches(0, 7));
    Check.is("nothing moved", 2, () -> x.block(0));
    Check.is("clock", 0, () -> x.clock());
    x.hold(0, true);
    Check.is("held", NONE, () -> x.reaches(0, 1));
    Check.is("held where it stands", 0, () -> x.reaches(0, 2));
    x.hold(0, false);
    x.delay(0, 99);
    Check.is("in 100 minutes", 100, () -> x.reaches(0, 1));
    Check.is("in more than 100", NONE, () -> x.reaches(0, 0));
    Check.is("the delay is the same", 100, () -> x.delay(0, 1));
    Check.is("in 101 minutes", NONE, () -> x.reaches(0, 1));
    reachesWithOthers();
    reachesBehindTheEnd();
  }

  private static void reachesWithOthers() {
    Warpyard x = new Warpyard();
    x.addTrain(0, true);
    x.addTrain(4, true);
    x.book(1, 2, 1, 9);
    Check.is("it would meet the other, head to head", NONE, () -> x.reaches(0, 2));
    Check.is("its own booking is not in its way", 5, () -> x.reaches(1, 2));
    x.hold(1, true);
    Check.is("a block booked for another", 11, () -> x.reaches(0, 2));
    Check.is("a block with a train", NONE, () -> x.reaches(0, 4));
    Check.is("still open", Warpyard.OPEN, () -> x.booking(0));
    Check.is("not late", NONE, () -> x.late(0));
    x.run(3);
    Check.is("a block booked for another", 8, () -> x.reaches(0, 2));
  }

  private static void reachesBehindTheEnd() {
    Warpyard x = new Warpyard();
    x.addTrain(0, true);
    x.addTrain(5, false);
    x.hold(0, true);
    x.hold(1, true);
    for (int i = 0; i < 50; i++) {
      x.run(100);
    }
    x.hold(0, false);
    x.delay(0, 98);
    Check.is("behind the minute 5000", 99, () -> x.reaches(0, 1));
    Check.is("behind the minute 5000", 100, () -> x.reaches(0, 2));
    Check.is("in more than 100 minutes", NONE, () -> x.reaches(0, 3));
    x.reverse(1);
    x.hold(1, false);
    x.book(0, 4, 5000, 5000);
    Check.is("it turns in the minute 5000", 2, () -> x.reaches(1, 4));
    x.reverse(1);
    Check.is("the minute 5000 is booked", 2, () -> x.reaches(1, 4));
    Check.is("clock", 5000, () -> x.clock());
  }

  private static void book() {
    Warpyard x = new Warpyard();
    Check.noSuch("no train, bad minutes", () -> x.book(0, 0, -1, -1));
    x.addTrain(0, true);
    x.addTrain(5, false);
    x.run(10);
    Check.noSuch("book(2, 0, 10, 10)", () -> x.book(2, 0, 10, 10));
    Check.noSuch("book(-1, 0, 10, 10)", () -> x.book(-1, 0, 10, 10));
    Check.noSuch("book(0, 8, 10, 10)", () -> x.book(0, 8, 10, 10));
    Check.noSuch("book(0, -1, 10, 9)", () -> x.book(0, -1, 10, 9));
    Check.badArgument("first below the clock", () -> x.book(0, 0, 9, 10));
    Check.badArgument("last below first", () -> x.book(0, 0, 11, 10));
    Check.badArgument("last above 5000", () -> x.book(0, 0, 10, 5001));
    Check.badArgument("first above 5000", () -> x.book(0, 0, 5001, 5001));
    Check.is("book from the clock", 0, () -> x.book(0, 3, 10, 20));
    Check.is("meets at the end", NONE, () -> x.book(1, 3, 20, 30));
    Check.is("meets within", NONE, () -> x.book(1, 3, 15, 15));
    Check.is("meets around", NONE, () -> x.book(1, 3, 10, 5000));
    Check.is("just behind", 1, () -> x.book(1, 3, 21, 30));
    Check.is("meets at the beginning", NONE, () -> x.book(0, 3, 15, 21));
    Check.is("meets its own only", 2, () -> x.book(0, 3, 12, 20));
    Check.is("another block", 3, () -> x.book(1, 4, 10, 20));
    Check.is("up to 5000", 4, () -> x.book(1, 7, 5000, 5000));
    for (int i = 5; i < 30; i++) {
      int number = i;
      Check.is("book", number, () -> x.book(0, 0, 100, 100));
    }
    Check.badState("a booking too many", () -> x.book(0, 0, 100, 100));
    Check.badState("a booking too many that would meet another", () -> x.book(1, 0, 100, 100));
    Check.badArgument("a booking too many below the clock", () -> x.book(0, 0, 9, 100));
    Check.noSuch("a booking too many for no train", () -> x.book(2, 0, 100, 100));
    Check.is("canBook all the same", true, () -> x.canBook(1, 0, 101, 101));
    Check.noSuch("booking(30)", () -> x.booking(30));
  }

  private static void bookingsInTheWay() {
    Warpyard x = new Warpyard();
    x.addTrain(0, true);
    x.addTrain(5, false);
    x.hold(1, true);
    x.book(1, 1, 0, 1);
    x.book(0, 2, 3, 3);
    x.book(1, 2, 4, 4);
    Check.is("in minute 0", 0, () -> x.run(1));
    Check.is("in minute 1", 0, () -> x.run(1));
    Check.is("in minute 2", 1, () -> x.run(1));
    Check.is("in minute 3, its own", 1, () -> x.run(1));
    Check.is("on its block", Warpyard.MET, () -> x.booking(1));
    x.reverse(0);
    x.run(1);
    x.reverse(0);
    x.book(1, 2, 5, 5);
    Check.is("in minute 5", 0, () -> x.run(1));
    Check.is("in minute 6", 1, () -> x.run(1));
    metBookingInTheWay();
  }

  private static void metBookingInTheWay() {
    Warpyard x = new Warpyard();
    x.addTrain(2, true);
    x.addTrain(0, true);
    x.hold(0, true);
    x.book(0, 2, 0, 3);
    x.run(1);
    Check.is("met", Warpyard.MET, () -> x.booking(0));
    x.hold(0, false);
    x.run(1);
    Check.is("the block is left", NONE, () -> x.trainOn(2));
    x.run(2);
    Check.is("but booked", 1, () -> x.block(1));
    x.run(1);
    Check.is("no longer booked", 2, () -> x.block(1));
  }

  private static void canBook() {
    Warpyard x = new Warpyard();
    Check.noSuch("canBook of no train", () -> x.canBook(0, 0, -1, 0));
    Check.noSuch("canBookByMinutes of no train", () -> x.canBookByMinutes(0, 0, -1, 0));
    x.addTrain(0, true);
    x.addTrain(5, false);
    x.book(0, 3, 10, 20);
    x.book(1, 3, 22, 22);
    for (int[] one : new int[][] {{2, 0}, {-1, 0}, {0, 8}, {0, -1}}) {
      Check.noSuch("canBook", () -> x.canBook(one[0], one[1], 1, 0));
      Check.noSuch("canBookByMinutes", () -> x.canBookByMinutes(one[0], one[1], 1, 0));
    }
    for (int[] one : new int[][] {{-1, 0}, {1, 0}, {0, 5001}, {5001, 5001}, {5001, 5000}, {-5, -6}}) {
      Check.badArgument("canBook", () -> x.canBook(0, 0, one[0], one[1]));
      Check.badArgument("canBookByMinutes", () -> x.canBookByMinutes(0, 0, one[0], one[1]));
    }
    canBookIs(x, 1, 3, 0, 9, true);
    canBookIs(x, 1, 3, 0, 10, false);
    canBookIs(x, 1, 3, 10, 10, false);
    canBookIs(x, 1, 3, 12, 13, false);
    canBookIs(x, 1, 3, 20, 20, false);
    canBookIs(x, 1, 3, 21, 5000, true);
    canBookIs(x, 1, 3, 0, 5000, false);
    canBookIs(x, 0, 3, 0, 21, true);
    canBookIs(x, 0, 3, 0, 22, false);
    canBookIs(x, 0, 3, 23, 23, true);
    canBookIs(x, 1, 4, 0, 5000, true);
    x.run(40);
    canBookIs(x, 0, 3, 0, 0, true);
    canBookIs(x, 1, 3, 20, 20, false);
    canBookIs(x, 1, 3, 5000, 5000, true);
    Check.noSuch("canBook books nothing", () -> x.booking(2));
  }

  private static void canBookIs(Warpyard x, int train, int block, int first, int last, boolean due) {
    String what = "Book(" + train + ", " + block + ", " + first + ", " + last + ")";
    Check.is("can" + what, due, () -> x.canBook(train, block, first, last));
    Check.is("by minutes can" + what, due, () -> x.canBookByMinutes(train, block, first, last));
  }

  private static void whatBecomesOfBookings() {
    Warpyard x = new Warpyard();
    x.addTrain(0, true);
    x.book(0, 1, 0, 0);
    x.book(0, 1, 1, 1);
    x.book(0, 3, 0, 2);
    x.book(0, 3, 0, 1);
    x.book(0, 5, 4, 4);
    x.book(0, 0, 0, 4999);
    becomes(x, 0, Warpyard.OPEN, NONE);
    x.run(1);
    becomes(x, 0, Warpyard.MET, 0);
    becomes(x, 1, Warpyard.OPEN, NONE);
    x.run(1);
    becomes(x, 1, Warpyard.BROKEN, NONE);
    becomes(x, 2, Warpyard.OPEN, NONE);
    becomes(x, 3, Warpyard.BROKEN, NONE);
    x.run(1);
    becomes(x, 2, Warpyard.MET, 2);
    becomes(x, 3, Warpyard.BROKEN, NONE);
    x.run(2);
    becomes(x, 4, Warpyard.MET, 0);
    x.run(1);
    becomes(x, 4, Warpyard.MET, 0);
    becomes(x, 5, Warpyard.OPEN, NONE);
    x.run(5);
    becomes(x, 5, Warpyard.MET, 10);
    x.run(40);
    becomes(x, 5, Warpyard.MET, 10);
    Check.noSuch("booking(6)", () -> x.booking(6));
    Check.noSuch("booking(-1)", () -> x.booking(-1));
    Check.noSuch("late(6)", () -> x.late(6));
    Check.noSuch("late(-1)", () -> x.late(-1));
    metByAnotherTrain();
  }

  private static void metByAnotherTrain() {
    Warpyard x = new Warpyard();
    x.addTrain(3, true);
    x.addTrain(5, false);
    x.hold(0, true);
    x.hold(1, true);
    x.book(1, 3, 0, 1);
    x.book(0, 3, 2, 2);
    x.run(2);
    becomes(x, 0, Warpyard.BROKEN, NONE);
    becomes(x, 1, Warpyard.OPEN, NONE);
    x.run(1);
    becomes(x, 1, Warpyard.MET, 0);
    for (int i = 0; i < 49; i++) {
      x.run(100);
    }
    x.run(97);
    x.book(1, 5, 5000, 5000);
    becomes(x, 2, Warpyard.OPEN, NONE);
  }

  private static void becomes(Warpyard x, int booking, int state, int late) {
    Check.is("booking(" + booking + ")", state, () -> x.booking(booking));
    Check.is("late(" + booking + ")", late, () -> x.late(booking));
  }

  private static void addWaggon() {
    Warpyard x = new Warpyard();
    Check.noSuch("addWaggon(5, 0)", () -> x.addWaggon(5, 0));
    Check.noSuch("addWaggon(8, 1)", () -> x.addWaggon(8, 1));
    Check.noSuch("addWaggon(-1, 1)", () -> x.addWaggon(-1, 1));
    Check.badArgument("addWaggon(6, 0)", () -> x.addWaggon(6, 0));
    Check.badArgument("addWaggon(7, 101)", () -> x.addWaggon(7, 101));
    for (int i = 0; i < 4; i++) {
      int number = i;
      Check.is("addWaggon", number, () -> x.addWaggon(7, 1 + number * 33));
      Check.is("at the switch", number, () -> x.waggonAt(7, 0));
      Check.is("at the end", 0, () -> x.waggonAt(7, number));
    }
    Check.badState("a fifth in the siding", () -> x.addWaggon(7, 1));
    Check.badArgument("a fifth in the siding, too heavy", () -> x.addWaggon(7, 101));
    for (int i = 4; i < 8; i++) {
      int number = i;
      Check.is("addWaggon", number, () -> x.addWaggon(6, 1));
    }
    Check.badState("a ninth", () -> x.addWaggon(6, 1));
    Check.noSuch("a ninth in no siding", () -> x.addWaggon(5, 1));
    x.addTrain(6, true);
    x.couple(0);
    Check.badState("a ninth, with room in the siding", () -> x.addWaggon(6, 1));
    Check.is("waggonAt(6, 3)", NONE, () -> x.waggonAt(6, 3));
  }

  private static void offer() {
    Warpyard x = new Warpyard();
    Check.noSuch("offer of no waggon", () -> x.offer(0, 6, -1, 0));
    x.addWaggon(6, 1);
    Check.noSuch("offer(1, ..)", () -> x.offer(1, 6, 0, 1));
    Check.noSuch("offer(-1, ..)", () -> x.offer(-1, 6, 0, 1));
    Check.noSuch("offer to 5", () -> x.offer(0, 5, -1, 1));
    Check.noSuch("offer to 8", () -> x.offer(0, 8, 0, 1001));
    Check.badArgument("offer by -1", () -> x.offer(0, 6, -1, 1));
    Check.badArgument("offer by 5001", () -> x.offer(0, 6, 5001, 1));
    Check.badArgument("offer for 0", () -> x.offer(0, 6, 0, 0));
    Check.badArgument("offer for 1001", () -> x.offer(0, 6, 0, 1001));
    Check.quiet("offer", () -> x.offer(0, 6, 5000, 1));
    Check.is("nothing is earned yet", 0, () -> x.earned());
    Check.quiet("offer in its place", () -> x.offer(0, 6, 0, 1000));
    x.addTrain(6, true);
    x.couple(0);
    Check.is("leave", 1000, () -> x.leave(0));
    Check.is("earned", 1000, () -> x.earned());
    x.couple(0);
    Check.is("the offer is done", 0, () -> x.leave(0));
    x.offer(0, 6, 0, 7);
    x.couple(0);
    Check.is("a new offer", 7, () -> x.leave(0));
    Check.is("earned", 1007, () -> x.earned());
  }

  private static void couple() {
    Warpyard x = new Warpyard();
    Check.noSuch("couple(0)", () -> x.couple(0));
    x.addTrain(6, true);
    x.addTrain(5, true);
    Check.noSuch("couple(2)", () -> x.couple(2));
    Check.noSuch("couple(-1)", () -> x.couple(-1));
    Check.badState("no waggon", () -> x.couple(0));
    x.addWaggon(6, 1);
    x.addWaggon(6, 40);
    x.addWaggon(6, 60);
    x.addWaggon(7, 5);
    Check.badState("on no siding", () -> x.couple(1));
    Check.is("couple", 2, () -> x.couple(0));
    Check.is("couple up to 100", 1, () -> x.couple(0));
    Check.badState("101 together", () -> x.couple(0));
    Check.is("in the siding still", 0, () -> x.waggonAt(6, 0));
    Check.is("the first one", 2, () -> x.waggonAt(10, 0));
    Check.is("the last one", 1, () -> x.waggonAt(10, 1));
    Check.is("no more", NONE, () -> x.waggonAt(10, 2));
    Warpyard y = new Warpyard();
    y.addTrain(7, true);
    y.addWaggon(7, 100);
    Check.is("couple 100", 0, () -> y.couple(0));
    y.addWaggon(7, 1);
    Check.badState("101 together", () -> y.couple(0));
    allWaggonsOnOneTrain();
  }

  private static void allWaggonsOnOneTrain() {
    Warpyard x = new Warpyard();
    x.addTrain(7, true);
    for (int i = 0; i < 8; i++) {
      int number = i;
      x.addWaggon(7, 12);
      Check.is("couple", number, () -> x.couple(0));
      Check.is("its last one", number, () -> x.waggonAt(10, number));
    }
    Check.is("no more", NONE, () -> x.waggonAt(10, 8));
    Check.badState("no waggon", () -> x.couple(0));
    for (int i = 7; i >= 4; i--) {
      x.leave(0);
    }
    Check.badState("4 in the siding", () -> x.leave(0));
    Check.is("at the switch", 4, () -> x.waggonAt(7, 0));
    Check.is("farthest", 7, () -> x.waggonAt(7, 3));
    Check.is("couple", 4, () -> x.couple(0));
  }

  private static void leave() {
    Warpyard x = new Warpyard();
    Check.noSuch("leave(0)", () -> x.leave(0));
    x.addTrain(6, true);
    x.addTrain(3, true);
    Check.noSuch("leave(2)", () -> x.leave(2));
    Check.noSuch("leave(-1)", () -> x.leave(-1));
    Check.badState("no waggon", () -> x.leave(0));
    x.addWaggon(6, 10);
    x.addWaggon(6, 10);
    x.couple(0);
    x.couple(0);
    x.offer(0, 7, 100, 50);
    x.offer(1, 6, 100, 30);
    Check.is("the offer is for the other siding", 0, () -> x.leave(0));
    Check.is("at the switch", 0, () -> x.waggonAt(6, 0));
    Check.is("the other's offer", 30, () -> x.leave(0));
    Check.is("earned", 30, () -> x.earned());
    x.couple(0);
    Check.is("on the train", 1, () -> x.waggonAt(10, 0));
    Check.is("no more in it", 0, () -> x.couple(0));
    x.throwSwitch(0);
    x.throwSwitch(1);
    x.hold(1, true);
    x.run(2);
    Check.is("block", 1, () -> x.block(0));
    Check.badState("on no siding", () -> x.leave(0));
    Check.badState("on no siding", () -> x.couple(0));
    Check.badState("on no siding, without waggons", () -> x.leave(1));
    x.throwSwitch(0);
    x.reverse(0);
    x.hold(1, false);
    x.reverse(1);
    x.throwSwitch(1);
    Check.is("trains hold their waggons", 0, () -> x.waggonAt(10, 1));
    offerThatStays();
  }

  private static void offerThatStays() {
    Warpyard x = new Warpyard();
    x.throwSwitch(0);
    x.addTrain(6, false);
    x.addWaggon(6, 10);
    x.couple(0);
    x.offer(0, 7, 100, 50);
    Check.is("left elsewhere", 0, () -> x.leave(0));
    x.couple(0);
    x.run(1);
    x.throwSwitch(0);
    x.throwSwitch(1);
    x.reverse(0);
    x.run(3);
    Check.is("block", 7, () -> x.block(0));
    Check.is("left there", 50, () -> x.leave(0));
    Check.is("earned", 50, () -> x.earned());
    Check.is("waggonAt(7, 0)", 0, () -> x.waggonAt(7, 0));
    Check.is("waggonAt(6, 0)", NONE, () -> x.waggonAt(6, 0));
  }

  private static void lateOffers() {
    earns(100, 10, 10, 100);
    earns(100, 10, 9, 100);
    earns(100, 10, 11, 90);
    earns(100, 10, 70, 90);
    earns(100, 10, 71, 80);
    earns(100, 10, 130, 80);
    earns(100, 0, 541, 0);
    earns(100, 0, 540, 10);
    earns(100, 0, 700, 0);
    earns(5, 0, 1, 0);
    earns(15, 0, 1, 5);
    earns(1000, 0, 5000, 160);
    earns(1, 5000, 5000, 1);
  }

  private static void earns(int price, int by, int at, int due) {
    Warpyard x = new Warpyard();
    x.addTrain(6, true);
    x.hold(0, true);
    x.addWaggon(6, 1);
    x.couple(0);
    x.offer(0, 6, by, price);
    while (x.clock() < at) {
      x.run(Math.min(100, at - x.clock()));
    }
    String what = price + " by " + by + " at " + at;
    Check.is(what, due, () -> x.leave(0));
    Check.is(what + ", earned", due, () -> x.earned());
    x.couple(0);
    Check.is(what + ", done", 0, () -> x.leave(0));
  }

  private static void waggonAt() {
    Warpyard x = new Warpyard();
    x.addTrain(0, true);
    x.addTrain(7, true);
    x.addWaggon(6, 1);
    x.addWaggon(7, 1);
    x.addWaggon(7, 1);
    x.addWaggon(6, 1);
    Check.is("from the switch on", 3, () -> x.waggonAt(6, 0));
    Check.is("from the switch on", 0, () -> x.waggonAt(6, 1));
    Check.is("from the switch on", 2, () -> x.waggonAt(7, 0));
    Check.is("from the switch on", 1, () -> x.waggonAt(7, 1));
    Check.is("no more", NONE, () -> x.waggonAt(7, 2));
    Check.is("no more", NONE, () -> x.waggonAt(6, Integer.MAX_VALUE));
    Check.is("train 0 has none", NONE, () -> x.waggonAt(10, 0));
    x.couple(1);
    Check.is("train 1", 2, () -> x.waggonAt(11, 0));
    Check.is("train 1", NONE, () -> x.waggonAt(11, Integer.MAX_VALUE));
    for (int wrong : new int[] {-1, 0, 1, 5, 8, 9, 12, 16, Integer.MIN_VALUE, Integer.MAX_VALUE}) {
      Check.noSuch("waggonAt(" + wrong + ", 0)", () -> x.waggonAt(wrong, 0));
    }
    Check.noSuch("place -1", () -> x.waggonAt(6, -1));
    Check.noSuch("place -1", () -> x.waggonAt(10, -1));
    Check.noSuch("place min", () -> x.waggonAt(7, Integer.MIN_VALUE));
  }

  /** Each wrong call is made to one of two like yards; then both must show the same. */
  private static void nothingChanges() {
    Told[] wrong = {
      x -> x.addTrain(0, true), x -> x.addTrain(8, true), x -> x.hold(4, true), x -> x.delay(0, 101),
      x -> x.delay(0, 0), x -> x.delay(2, 100), x -> x.reverse(4), x -> x.throwSwitch(2), x -> x.run(0),
      x -> x.run(101), x -> x.reaches(0, 8), x -> x.book(0, 3, 8, 20), x -> x.book(0, 3, 21, 20),
      x -> x.book(0, 8, 20, 20), x -> x.book(1, 3, 5000, 5001), x -> x.addWaggon(5, 1), x -> x.addWaggon(6, 0),
      x -> x.addWaggon(7, 1), x -> x.offer(0, 6, 0, 0), x -> x.offer(0, 6, 5001, 5), x -> x.offer(0, 8, 1, 5),
      x -> x.couple(0), x -> x.couple(3), x -> x.leave(0), x -> x.leave(3), x -> x.leave(4),
      x -> x.waggonAt(6, -1), x -> x.canBook(0, 0, -1, 5), x -> x.canBookByMinutes(0, 0, 5, 4),
    };
    for (int i = 0; i < wrong.length; i++) {
      Warpyard changed = busyYard();
      Warpyard same = busyYard();
      Told told = wrong[i];
      Object thrown = Check.outcome(() -> {
        told.to(changed);
        return "nothing";
      });
      String what = "wrong call " + i;
      Check.is(what + " throws", true, () -> thrown instanceof Class);
      Check.is(what + " changes nothing", Sight.of(same), () -> Sight.of(changed));
      Check.is(what + " changes no offer", rest(same), () -> rest(changed));
    }
  }

  /** Four trains, bookings, a full siding 7 with a full train on it, and an offer for each waggon. */
  private static Warpyard busyYard() {
    Warpyard x = new Warpyard();
    x.addTrain(0, true);
    x.addTrain(3, true);
    x.addTrain(5, false);
    x.addTrain(7, true);
    x.hold(3, true);
    for (int i = 0; i < 2; i++) {
      x.addWaggon(7, 50);
      x.couple(3);
    }
    for (int i = 0; i < 4; i++) {
      x.addWaggon(7, 1);
    }
    x.addWaggon(6, 10);
    x.addWaggon(6, 20);
    x.run(9);
    x.book(0, 3, 9, 20);
    x.book(1, 4, 15, 30);
    for (int i = 0; i < 10; i++) {
      x.delay(2, 100);
    }
    for (int i = 0; i < 8; i++) {
      x.offer(i, 7, 10 * i, 10 + i);
    }
    return x;
  }

  /** What the waggons of the siding 7 earn, and what train 2 is delayed. */
  private static String rest(Warpyard x) {
    StringBuilder all = new StringBuilder();
    all.append(Check.outcome(() -> x.delay(2, 1)));
    x.run(1);
    all.append(' ').append(Check.outcome(() -> x.delay(2, 1)));
    x.hold(3, false);
    x.throwSwitch(1);
    for (int i = 0; i < 60; i++) {
      x.run(1);
      all.append(' ').append(Check.outcome(() -> x.couple(3)));
      all.append(' ').append(Check.outcome(() -> x.leave(3)));
      if (i % 7 == 0) {
        x.throwSwitch(0);
      }
    }
    return all.append(' ').append(x.earned()).toString();
  }
}
