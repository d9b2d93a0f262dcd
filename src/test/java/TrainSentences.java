/** The sentences of the promises 1 to 9: a new object, trains and switches. */
final class TrainSentences {
  private static final int NONE = Warpyard.NONE;
  private static final String A_TRAIN = "train: the number of a train";
  private static final String NO_TRAIN = "Throws IndexOutOfBoundsException if there is no such train";
  private static final String NO_BLOCK = "Throws IndexOutOfBoundsException if there is no such block";

  private TrainSentences() {
  }

  static void test() {
    newObject();
    addTrain();
    addTrainRefused();
    hold();
    delay();
    delayRefused();
    reverse();
    throwSwitch();
    block();
    isRight();
    trainOn();
  }

  private static void newObject() {
    Check.says("A new object", "Creates a yard without trains and waggons");
    Warpyard x = new Warpyard();
    for (int i = 0; i < 8; i++) {
      int block = i;
      Check.is("trainOn " + block, NONE, () -> x.trainOn(block));
    }
    for (int siding = 6; siding <= 7; siding++) {
      int number = siding;
      Check.is("waggonAt " + siding, NONE, () -> x.waggonAt(number, 0));
    }
    Check.noSuch("block(0)", () -> x.block(0));
    Check.noSuch("waggonAt(10, 0)", () -> x.waggonAt(10, 0));
    Check.noSuch("offer for waggon 0", () -> x.offer(0, 6, 0, 1));
    Check.noSuch("booking(0)", () -> x.booking(0));
    Check.is("clock", 0, () -> x.clock());
    Check.is("earned", 0, () -> x.earned());
    Warpyard other = Yards.made(Yards.trains(4), y -> y.run(7));
    Check.is("the other's clock", 7, () -> other.clock());
    Check.is("one yard is not the other", 0, () -> x.clock());
    Check.noSuch("one yard's trains are not the other's", () -> x.isRight(0));
  }

  private static void addTrain() {
    Check.says("addTrain", "Puts a train on a block");
    Warpyard x = Yards.made(y -> y.addTrain(3, true));
    Check.is("block", 3, () -> x.block(0));
    Check.is("trainOn", 0, () -> x.trainOn(3));
    Warpyard booked = Yards.made(y -> y.addTrain(0, true), y -> y.book(0, 5, 0, 5000));
    Check.is("also on one that is booked for another", 1, () -> booked.addTrain(5, true));
    Check.says("addTrain", "block: 0 to 7");
    for (int i = 0; i < 8; i++) {
      int block = i;
      Warpyard y = new Warpyard();
      Check.is("addTrain(" + block + ")", 0, () -> y.addTrain(block, true));
      Check.is("block", block, () -> y.block(0));
    }
    Check.says("addTrain", "isRight: true if it heads to the right");
    Warpyard y = Yards.made(z -> z.addTrain(2, true), z -> z.addTrain(3, false));
    Check.is("true", true, () -> y.isRight(0));
    Check.is("false", false, () -> y.isRight(1));
    Check.says("addTrain", "Returns its number");
    Warpyard z = new Warpyard();
    for (int train = 0; train < 4; train++) {
      int number = train;
      Check.is("number", number, () -> z.addTrain(2 * number, false));
      Check.badState("one that is refused takes no number", () -> z.addTrain(2 * number, false));
    }
  }

  private static void addTrainRefused() {
    Check.says("addTrain", NO_BLOCK);
    Yards.noSuchBlock((x, block) -> x.addTrain(block, true));
    Check.says("addTrain", "Throws IllegalStateException if there are 4 trains, or one stands there");
    for (int block : new int[] {1, 2, 4, 5}) {
      Refusal.badState("a fifth train on " + block, Yards.trains(4), x -> x.addTrain(block, true));
    }
    for (int block : new int[] {0, 3, 6, 7}) {
      Refusal.badState("a fifth train on another on " + block, Yards.trains(4), x -> x.addTrain(block, true));
    }
    for (int block : new int[] {0, 3, 6}) {
      Refusal.badState("a fourth train on another on " + block, Yards.trains(3), x -> x.addTrain(block, false));
    }
    Warpyard x = Yards.made(y -> y.addTrain(1, true), y -> y.run(1));
    Check.is("a block that was left", 1, () -> x.addTrain(1, true));
    Check.badState("the block to which it went", () -> x.addTrain(2, true));
    Warpyard y = Yards.made(Yards.trains(3));
    Check.is("a fourth train", 3, () -> y.addTrain(7, true));
  }

  private static void hold() {
    Check.says("hold", "Holds a train, or lets it go");
    Warpyard x = Yards.made(y -> y.addTrain(0, true), y -> y.addTrain(3, true), y -> y.hold(0, true));
    Check.is("one is held, the other goes", 1, () -> x.run(1));
    x.hold(0, false);
    Check.is("both go", 2, () -> x.run(1));
    Check.is("block", 1, () -> x.block(0));
    Check.says("hold", A_TRAIN);
    Yards.everyTrain((y, train) -> y.hold(train, false));
    Check.says("hold", "is: true to hold it");
    Warpyard held = Yards.made(y -> y.addTrain(0, true), y -> y.hold(0, true));
    Check.is("true", 0, () -> held.run(9));
    Warpyard free = Yards.made(y -> y.addTrain(0, true), y -> y.hold(0, true), y -> y.hold(0, false));
    Check.is("false", 1, () -> free.run(1));
    Check.says("hold", "Returns true if that changes something");
    Warpyard z = Yards.made(y -> y.addTrain(0, true), y -> y.addTrain(3, true));
    Check.is("let go what was never held", false, () -> z.hold(0, false));
    Check.is("hold", true, () -> z.hold(0, true));
    Check.is("hold again", false, () -> z.hold(0, true));
    Check.is("hold another", true, () -> z.hold(1, true));
    Check.is("let go", true, () -> z.hold(0, false));
    Check.is("let go again", false, () -> z.hold(0, false));
    Check.is("the other is still held", false, () -> z.hold(1, true));
    Check.says("hold", NO_TRAIN);
    Yards.noSuchTrain((y, train) -> y.hold(train, true));
    Yards.noSuchTrain((y, train) -> y.hold(train, false));
  }

  private static void delay() {
    Check.says("delay", "Gives a train more delay");
    Warpyard x = Yards.made(y -> y.addTrain(0, true), y -> y.addTrain(3, true), y -> y.delay(0, 2), y -> y.delay(0, 1));
    Check.is("one waits, the other goes on", 2, () -> x.run(2));
    Check.is("the last minute", 0, () -> x.run(1));
    Check.is("both", 2, () -> x.run(1));
    Check.says("delay", A_TRAIN);
    Yards.everyTrain((y, train) -> y.delay(train, 1));
    Check.says("delay", "minutes: 1 to 100");
    Warpyard least = Yards.made(y -> y.addTrain(0, true));
    Check.is("1", 1, () -> least.delay(0, 1));
    Warpyard most = Yards.made(y -> y.addTrain(0, true));
    Check.is("100", 100, () -> most.delay(0, 100));
    Check.says("delay", "Returns its delay then");
    Warpyard y = Yards.made(z -> z.addTrain(0, true), z -> z.addTrain(3, true));
    Check.is("first", 5, () -> y.delay(0, 5));
    Check.is("more", 12, () -> y.delay(0, 7));
    Check.is("of the other", 3, () -> y.delay(1, 3));
    y.run(10);
    Check.is("behind 10 minutes", 3, () -> y.delay(0, 1));
    Check.is("of the other, whose delay was over", 1, () -> y.delay(1, 1));
  }

  private static void delayRefused() {
    Check.says("delay", NO_TRAIN);
    Yards.noSuchTrain((x, train) -> x.delay(train, 1));
    Check.says("delay", "Throws IllegalArgumentException if minutes is out of range, or its delay would be above 1000");
    for (int minutes : Yards.outside(1, 100)) {
      Refusal.badArgument("minutes " + minutes, Yards.trains(2), x -> x.delay(1, minutes));
      Refusal.badArgument("minutes " + minutes + " more", delayed(1000), x -> x.delay(0, minutes));
    }
    Refusal.badArgument("1 more than 1000", delayed(1000), x -> x.delay(0, 1));
    Refusal.badArgument("100 more than 1000", delayed(1000), x -> x.delay(0, 100));
    Refusal.badArgument("100 more than 901", delayed(901), x -> x.delay(0, 100));
    Refusal.badArgument("2 more than 999", delayed(999), x -> x.delay(0, 2));
    Warpyard x = Yards.made(delayed(900));
    Check.is("100 more than 900", 1000, () -> x.delay(0, 100));
    Warpyard y = Yards.made(delayed(999));
    Check.is("1 more than 999", 1000, () -> y.delay(0, 1));
    Check.is("the other train has none", 100, () -> y.delay(1, 100));
    y.run(1);
    Check.is("1000 again behind a minute", 1000, () -> y.delay(0, 1));
  }

  private static Told delayed(int minutes) {
    return x -> {
      Yards.trains(2).to(x);
      for (int left = minutes; left > 0; left -= 100) {
        x.delay(0, Math.min(left, 100));
      }
    };
  }

  private static void reverse() {
    Check.says("reverse", "Turns a train round where it stands");
    for (int i = 0; i < 8; i++) {
      int block = i;
      Warpyard x = Yards.made(y -> y.addTrain(block, true), y -> y.reverse(0));
      Check.is("heads to the left", false, () -> x.isRight(0));
      Check.is("where it stood", block, () -> x.block(0));
      Check.is("no time passes", 0, () -> x.clock());
    }
    Warpyard x = Yards.made(y -> y.addTrain(2, true), y -> y.reverse(0), y -> y.run(1));
    Check.is("it goes the other way", 1, () -> x.block(0));
    Check.says("reverse", A_TRAIN);
    Yards.everyTrain((y, train) -> y.reverse(train));
    Check.says("reverse", "Returns true if it heads to the right then");
    Warpyard y = Yards.made(z -> z.addTrain(2, true), z -> z.addTrain(3, true), z -> z.hold(0, true),
        z -> z.delay(0, 3));
    Check.is("to the left", false, () -> y.reverse(0));
    Check.is("to the right", true, () -> y.reverse(0));
    Check.is("the other to the left", false, () -> y.reverse(1));
    Check.says("reverse", NO_TRAIN);
    Yards.noSuchTrain((z, train) -> z.reverse(train));
  }

  private static void throwSwitch() {
    Check.says("throwSwitch", "Throws a switch to its other position");
    Warpyard x = Yards.made(y -> y.addTrain(1, true), y -> y.throwSwitch(0));
    Check.is("turned", 1, () -> x.reaches(0, 6));
    x.throwSwitch(1);
    Check.is("the other switch is another", 1, () -> x.reaches(0, 6));
    x.throwSwitch(0);
    Check.is("straight", 1, () -> x.reaches(0, 2));
    Check.is("the other switch is turned still", 3, () -> x.reaches(0, 7));
    Check.says("throwSwitch", "number: 0 or 1");
    Check.is("0", true, () -> new Warpyard().throwSwitch(0));
    Check.is("1", true, () -> new Warpyard().throwSwitch(1));
    Check.says("throwSwitch", "Returns true if it is turned then");
    Warpyard y = new Warpyard();
    for (int number = 0; number < 2; number++) {
      int its = number;
      Check.is("turned", true, () -> y.throwSwitch(its));
      Check.is("straight", false, () -> y.throwSwitch(its));
      Check.is("turned again", true, () -> y.throwSwitch(its));
    }
    Check.says("throwSwitch", "Throws IndexOutOfBoundsException if there is no such switch");
    for (int wrong : Yards.outside(0, 1)) {
      Refusal.noSuch("switch " + wrong, Yards.trains(2), z -> z.throwSwitch(wrong));
    }
  }

  private static void block() {
    Check.says("block", "Returns the block on which a train stands");
    for (int i = 0; i < 8; i++) {
      int block = i;
      Warpyard x = Yards.made(y -> y.addTrain(block, true));
      Check.is("block", block, () -> x.block(0));
    }
    Check.says("block", A_TRAIN);
    Warpyard x = Yards.made(Yards.trains(4));
    for (int train = 0; train < 4; train++) {
      int number = train;
      Check.is("train " + train, new int[] {6, 0, 3, 7}[train], () -> x.block(number));
    }
    Yards.everyTrain((y, train) -> y.block(train));
    Check.says("block", NO_TRAIN);
    Yards.noSuchTrain((y, train) -> y.block(train));
  }

  private static void isRight() {
    Check.says("isRight", "Tells whether a train heads to the right");
    Warpyard x = Yards.made(y -> y.addTrain(4, true));
    Check.is("ahead of the dead end", true, () -> x.isRight(0));
    x.run(1);
    Check.is("at the dead end", true, () -> x.isRight(0));
    x.run(1);
    Check.is("turned there", false, () -> x.isRight(0));
    x.reverse(0);
    Check.is("turned by hand", true, () -> x.isRight(0));
    Check.says("isRight", A_TRAIN);
    Warpyard z = Yards.made(Yards.trains(4));
    for (int train = 0; train < 4; train++) {
      int number = train;
      Check.is("train " + train, number % 2 == 0, () -> z.isRight(number));
    }
    Yards.everyTrain((y, train) -> y.isRight(train));
    Check.says("isRight", NO_TRAIN);
    Yards.noSuchTrain((y, train) -> y.isRight(train));
  }

  private static void trainOn() {
    Check.says("trainOn", "Returns the train on a block");
    Warpyard x = Yards.made(Yards.trains(4));
    for (int train = 0; train < 4; train++) {
      int number = train;
      Check.is("train " + train, number, () -> x.trainOn(new int[] {6, 0, 3, 7}[number]));
    }
    Check.says("trainOn", "block: 0 to 7");
    Warpyard y = Yards.made(z -> z.addTrain(0, true), z -> z.addTrain(7, true));
    Check.is("0", 0, () -> y.trainOn(0));
    Check.is("7", 1, () -> y.trainOn(7));
    Yards.everyBlock((z, block) -> z.trainOn(block));
    Check.says("trainOn", "Returns the train");
    Warpyard moved = Yards.made(z -> z.addTrain(0, true), z -> z.run(5));
    Check.is("where it went", 0, () -> moved.trainOn(5));
    Check.says("trainOn", "NONE if there is none");
    for (int i = 0; i < 8; i++) {
      int block = i;
      Check.is("in an empty yard", NONE, () -> new Warpyard().trainOn(block));
      Check.is("on " + block, block == 5 ? 0 : NONE, () -> moved.trainOn(block));
    }
    Check.says("trainOn", NO_BLOCK);
    Yards.noSuchBlock((z, block) -> z.trainOn(block));
  }
}
