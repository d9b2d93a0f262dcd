/** The sentences of 'What it is', and those of 'Terms' about tracks, trains and minutes. */
final class TrackSentences {
  private static final String TERMS = "Terms";
  private static final int NONE = Warpyard.NONE;

  private TrackSentences() {
  }

  static void test() {
    story();
    calls512();
    told();
    asked();
    row();
    sidings();
    switch0Straight();
    switch0Turned();
    switch1();
    leftEndsOfSidings();
    otherNeighbours();
    deadEnds();
    trainNumbers();
    noTwoOnOneBlock();
    holdAndDelay();
    minuteOfDelay();
    minuteOfHeld();
    minuteAtDeadEnd();
    minuteInWhichItStays();
    minuteThatMoves();
    clockGrows();
    minuteIsTheClockAhead();
    constants();
  }

  private static void story() {
    Check.says("What it is", "A yard of trains, a timetable office and an exchange of waggons on the same tracks:"
        + " trains move block by block, switches lead them into sidings, blocks are booked by the minute, delays break"
        + " bookings, waggons are coupled and left in sidings, and what is brought late costs");
    Warpyard x = Yards.made(y -> y.addTrain(6, false), y -> y.addWaggon(6, 9), y -> y.throwSwitch(0));
    x.offer(0, 7, 3, 100);
    x.book(0, 2, 1, 1);
    Check.is("coupled", 0, () -> x.couple(0));
    Check.is("delay", 1, () -> x.delay(0, 1));
    Check.is("block by block", 1, () -> x.run(2));
    x.reverse(0);
    x.throwSwitch(0);
    x.throwSwitch(1);
    Check.is("delays break bookings", Warpyard.BROKEN, () -> x.booking(0));
    Check.is("switches lead it", 3, () -> x.run(3));
    Check.is("into the siding", 7, () -> x.block(0));
    Check.is("late costs", 90, () -> x.leave(0));
    Check.is("left in the siding", 0, () -> x.waggonAt(7, 0));
  }

  private static void calls512() {
    Check.says("What it is", "An object is used for at most 512 calls after it has been made");
    Warpyard x = Yards.made(y -> y.addTrain(0, true), y -> y.addTrain(5, true), y -> y.hold(0, true));
    for (int call = 4; call < 512; call++) {
      int number = call;
      Object due = call % 3 == 0 ? 5 : call % 3 == 1 ? IllegalStateException.class : true;
      Check.is("call " + call, due, () -> dear(x, number));
    }
    Check.is("call 512", 4, () -> x.run(5));
    Warpyard y = Yards.made(z -> z.addTrain(7, true), z -> z.reverse(0));
    for (int call = 3; call < 512; call++) {
      boolean turned = call % 2 == 1;
      Check.is("call " + call, turned, () -> y.throwSwitch(1));
    }
    Check.is("call 512", 2, () -> y.reaches(0, 2));
  }

  private static Object dear(Warpyard x, int call) {
    switch (call % 3) {
      case 0:
        return x.reaches(1, 1);
      case 1:
        return x.addTrain(5, true);
      default:
        return x.canBookByMinutes(0, 3, 0, 5000);
    }
  }

  private static void told() {
    Check.says(TERMS, "Trains, switches, bookings, waggons and offers are told, minutes run");
    Warpyard x = new Warpyard();
    Check.is("a train", 0, () -> x.addTrain(6, true));
    Check.is("a switch", true, () -> x.throwSwitch(0));
    Check.is("a booking", 0, () -> x.book(0, 6, 0, 0));
    Check.is("a waggon", 0, () -> x.addWaggon(6, 1));
    Check.quiet("an offer", () -> x.offer(0, 6, 0, 1));
    Check.is("a minute", 0, () -> x.run(1));
  }

  private static void asked() {
    Check.says(TERMS, "places, bookings, waggons and money are asked");
    Told made = y -> {
      Yards.trains(4).to(y);
      y.hold(1, false);
      y.couple(0);
      y.book(0, 6, 0, 9);
      y.book(1, 4, 2, 3);
      y.run(2);
      y.leave(0);
      y.delay(1, 3);
    };
    Warpyard x = Yards.made(made);
    String first = Sight.of(x);
    Check.is("asked again", first, () -> Sight.of(x));
    Check.is("canBookByMinutes", false, () -> x.canBookByMinutes(0, 4, 0, 5000));
    Check.is("asked once more", first, () -> Sight.of(x));
    Check.is("what asking leaves behind", Sight.behind(Yards.made(made)), () -> Sight.behind(x));
  }

  private static void row() {
    Check.says(TERMS, "The blocks 0 to 5 lie in a row, from the left to the right");
    Warpyard x = Yards.made(y -> y.addTrain(0, true), y -> y.addTrain(5, false));
    for (int block = 1; block <= 5; block++) {
      int number = block;
      Warpyard alone = Yards.made(y -> y.addTrain(0, true), y -> y.run(number));
      Check.is("from the left in minute " + number, number, () -> alone.block(0));
      Warpyard back = Yards.made(y -> y.addTrain(5, false), y -> y.run(number));
      Check.is("from the right in minute " + number, 5 - number, () -> back.block(0));
    }
    Check.is("from both ends", 4, () -> x.run(20));
    Check.is("they meet", 2, () -> x.block(0));
    Check.is("they meet", 3, () -> x.block(1));
  }

  private static void sidings() {
    Check.says(TERMS, "the blocks 6 and 7 are sidings");
    for (int block = 0; block <= 8; block++) {
      int number = block;
      Warpyard x = new Warpyard();
      Object due = block == 6 || block == 7 ? 0 : IndexOutOfBoundsException.class;
      Check.is("addWaggon(" + block + ", 1)", due, () -> x.addWaggon(number, 1));
    }
    for (int block = 0; block <= 7; block++) {
      int number = block;
      Warpyard x = Yards.made(y -> y.addTrain(number, true), y -> y.addWaggon(6, 1), y -> y.addWaggon(7, 1));
      Object due = block < 6 ? IllegalStateException.class : block - 6;
      Check.is("couple on " + block, due, () -> x.couple(0));
    }
  }

  private static void switch0Straight() {
    Check.says(TERMS, "Behind the right end of the block 1 is the switch 0: if it is straight, as at first, the blocks"
        + " 1 and 2 are joined");
    for (int turned : new int[] {0, 2}) {
      goes(1, true, turned, 2);
      goes(2, false, turned, 1);
      goes(6, false, turned, 6);
    }
    Warpyard x = Yards.made(y -> y.addTrain(1, true), y -> y.throwSwitch(0), y -> y.throwSwitch(0));
    Check.is("straight again", 1, () -> x.run(1));
    Check.is("straight again", 2, () -> x.block(0));
  }

  private static void switch0Turned() {
    Check.says(TERMS, "if it is turned, the blocks 1 and 6 are");
    for (int turned : new int[] {1, 3}) {
      goes(1, true, turned, 6);
      goes(6, false, turned, 1);
      goes(2, false, turned, 2);
    }
  }

  private static void switch1() {
    Check.says(TERMS, "Behind the right end of the block 3 is the switch 1, likewise with the blocks 4 and 7");
    for (int turned : new int[] {0, 1}) {
      goes(3, true, turned, 4);
      goes(4, false, turned, 3);
      goes(7, false, turned, 7);
    }
    for (int turned : new int[] {2, 3}) {
      goes(3, true, turned, 7);
      goes(7, false, turned, 3);
      goes(4, false, turned, 4);
    }
  }

  private static void leftEndsOfSidings() {
    Check.says(TERMS, "The left end of a siding is at its switch");
    for (int turned = 0; turned < 4; turned++) {
      goes(6, false, turned, turned % 2 == 1 ? 1 : 6);
      goes(7, false, turned, turned >= 2 ? 3 : 7);
    }
  }

  private static void otherNeighbours() {
    Check.says(TERMS, "All other neighbouring blocks of the row are joined always");
    for (int turned = 0; turned < 4; turned++) {
      for (int left : new int[] {0, 2, 4}) {
        goes(left, true, turned, left + 1);
        goes(left + 1, false, turned, left);
      }
    }
  }

  /** A train that finds no dead end goes on heading as it did. */
  private static void goes(int from, boolean toRight, int turned, int to) {
    Warpyard x = Yards.made(switches(turned), y -> y.addTrain(from, toRight));
    String what = "from " + from + (toRight ? " right" : " left") + " with the switches " + turned;
    Check.is(what, from == to ? 0 : 1, () -> x.run(1));
    Check.is(what, to, () -> x.block(0));
    Check.is(what + ", heading", toRight, () -> x.isRight(0));
    Check.is(what + ", left behind", from == to ? 0 : NONE, () -> x.trainOn(from));
  }

  private static Told switches(int turned) {
    return x -> {
      for (int number = 0; number < 2; number++) {
        if ((turned >> number & 1) != 0) {
          x.throwSwitch(number);
        }
      }
    };
  }

  private static void deadEnds() {
    Check.says(TERMS, "The left end of the block 0, the right end of the block 5 and the right ends of the sidings are"
        + " dead ends");
    for (int turned = 0; turned < 4; turned++) {
      for (int block = 0; block < 8; block++) {
        turnsRound(block, true, turned, block >= 5);
        turnsRound(block, false, turned, block == 0);
      }
    }
  }

  private static void turnsRound(int block, boolean toRight, int turned, boolean due) {
    Warpyard x = Yards.made(switches(turned), y -> y.addTrain(block, toRight), y -> y.run(1));
    String what = "on " + block + (toRight ? " right" : " left") + " with the switches " + turned;
    Check.is(what + " turns round", due, () -> x.isRight(0) != toRight);
    if (due) {
      Check.is(what + " stays", block, () -> x.block(0));
    }
  }

  private static void trainNumbers() {
    Check.says(TERMS, "Trains are numbered from 0, up to 4");
    Warpyard x = new Warpyard();
    for (int train = 0; train < 4; train++) {
      int number = train;
      Check.is("addTrain", number, () -> x.addTrain(7 - number, true));
    }
    Check.badState("a fifth", () -> x.addTrain(0, true));
    Check.is("the last one's block", 4, () -> x.block(3));
    Check.noSuch("the fifth's block", () -> x.block(4));
  }

  private static void noTwoOnOneBlock() {
    Check.says(TERMS, "A train stands on a block, no two on the same one, and heads to the right or to the left");
    for (int block = 0; block < 8; block++) {
      int number = block;
      Refusal.badState("a second train on " + block, y -> y.addTrain(number, true), y -> y.addTrain(number, false));
    }
    Warpyard x = Yards.made(Yards.trains(4));
    for (int train = 0; train < 4; train++) {
      x.hold(train, false);
    }
    for (int minute = 0; minute < 60; minute++) {
      x.throwSwitch(minute % 3 % 2);
      x.run(1);
      Check.is("blocks of 4 trains in minute " + minute, 4, () -> blocksWithATrain(x));
    }
  }

  private static int blocksWithATrain(Warpyard x) {
    boolean[] taken = new boolean[8];
    int count = 0;
    for (int train = 0; train < 4; train++) {
      int block = x.block(train);
      count += taken[block] ? 0 : 1;
      taken[block] = true;
    }
    return count;
  }

  private static void holdAndDelay() {
    Check.says(TERMS, "It may be held, and it may have minutes of delay");
    Warpyard x = Yards.made(y -> y.addTrain(0, true));
    Check.is("it begins with no delay, and not held", 1, () -> x.run(1));
    Check.is("held", true, () -> x.hold(0, true));
    Check.is("and delayed", 2, () -> x.delay(0, 2));
    Check.is("both", 0, () -> x.run(1));
    Check.is("still held", false, () -> x.hold(0, true));
    Check.is("still delayed", 2, () -> x.delay(0, 1));
    x.hold(0, false);
    Check.is("delayed alone", 0, () -> x.run(2));
    Check.is("neither", 1, () -> x.run(1));
  }

  private static void minuteOfDelay() {
    Check.says(TERMS, "A minute that runs, for each train, by rising numbers: if it has delay, it has one minute less"
        + " and stays");
    Warpyard x = Yards.made(y -> y.addTrain(1, true), y -> y.addTrain(0, true));
    Check.is("the first one leaves its block to the second", 2, () -> x.run(1));
    Warpyard y = Yards.made(z -> z.addTrain(0, true), z -> z.addTrain(1, true));
    Check.is("the first one finds the second", 1, () -> y.run(1));
    Check.is("the first one stays", 0, () -> y.block(0));
    Warpyard z = Yards.made(w -> w.addTrain(0, true), w -> w.delay(0, 1));
    Check.is("the last minute of delay", 0, () -> z.run(1));
    Check.is("behind it", 1, () -> z.run(1));
    Check.is("no delay is left, nor less than none", 1, () -> z.delay(0, 1));
    delayGoesFirst(0, false);
    delayGoesFirst(5, true);
    longestDelay();
  }

  /** Delay grows less also at a dead end and where a train is held, and a delayed train does not turn. */
  private static void delayGoesFirst(int deadEnd, boolean toRight) {
    Warpyard x = Yards.made(y -> y.addTrain(deadEnd, toRight), y -> y.delay(0, 2), y -> y.hold(0, true), y -> y.run(1));
    Check.is("one minute less though held", 2, () -> x.delay(0, 1));
    x.hold(0, false);
    x.run(2);
    Check.is("not turned", toRight, () -> x.isRight(0));
    x.run(1);
    Check.is("turned", !toRight, () -> x.isRight(0));
  }

  private static void longestDelay() {
    Warpyard x = Yards.made(y -> y.addTrain(0, true));
    for (int i = 0; i < 10; i++) {
      x.delay(0, 100);
    }
    for (int i = 0; i < 10; i++) {
      Check.is("a delay of 1000", 0, () -> x.run(100));
    }
    Check.is("behind a delay of 1000", 1, () -> x.run(1));
  }

  private static void minuteOfHeld() {
    Check.says(TERMS, "otherwise, if it is held, it stays");
    Warpyard x = Yards.made(y -> y.addTrain(2, true), y -> y.hold(0, true));
    Check.is("held on the track", 0, () -> x.run(100));
    Check.is("held on the track", 2, () -> x.block(0));
    for (int block : new int[] {0, 5, 6, 7}) {
      Warpyard y = Yards.made(z -> z.addTrain(block, block != 0), z -> z.hold(0, true), z -> z.run(3));
      Check.is("held at the dead end of " + block, block != 0, () -> y.isRight(0));
    }
  }

  private static void minuteAtDeadEnd() {
    Check.says(TERMS, "otherwise, if the end of its block to which it heads is a dead end, it turns round and stays");
    Warpyard x = Yards.made(y -> y.addTrain(5, true), y -> y.addTrain(4, true), y -> y.book(1, 5, 0, 9));
    x.hold(1, true);
    Check.is("it turns on a block booked for another", 0, () -> x.run(1));
    Check.is("turned", false, () -> x.isRight(0));
    Check.is("then the other is in its way", 0, () -> x.run(5));
    Check.is("and it does not turn for that", false, () -> x.isRight(0));
    Warpyard y = Yards.made(z -> z.addTrain(0, false));
    Check.is("it turns in a minute of its own", 0, () -> y.run(1));
    Check.is("and goes in the next", 1, () -> y.run(1));
    Check.is("right", true, () -> y.isRight(0));
  }

  private static void minuteInWhichItStays() {
    Check.says(TERMS, "otherwise, if that end is not joined to a block by the switch as it is, or a train stands on"
        + " that block, or that block is booked for another train in this minute (by any booking, also one that is"
        + " met), it stays");
    notJoined(2, 1);
    notJoined(4, 2);
    notJoined(6, 0);
    notJoined(7, 0);
    trainInTheWay();
    bookedForAnother();
    bookedAndMet();
    bookedForItself();
    bookedUnderATrain();
  }

  private static void notJoined(int block, int turned) {
    Warpyard x = Yards.made(switches(turned), y -> y.addTrain(block, false));
    Check.is("not joined to " + block, 0, () -> x.run(100));
    Check.is("not turned on " + block, false, () -> x.isRight(0));
    x.throwSwitch(block == 2 || block == 6 ? 0 : 1);
    Check.is("joined to " + block, 1, () -> x.run(1));
  }

  private static void trainInTheWay() {
    Warpyard x = Yards.made(y -> y.addTrain(3, false), y -> y.addTrain(2, true));
    Check.is("head to head", 0, () -> x.run(100));
    Check.is("not turned", false, () -> x.isRight(0));
    Check.is("not turned", true, () -> x.isRight(1));
    Warpyard y = Yards.made(z -> z.addTrain(4, true), z -> z.addTrain(3, true), z -> z.delay(0, 2));
    Check.is("behind one that is delayed", 0, () -> y.run(2));
    Check.is("that goes", 2, () -> y.run(1));
    y.hold(0, true);
    Check.is("behind one that is held", 0, () -> y.run(100));
  }

  private static void bookedForAnother() {
    Warpyard x = Yards.made(y -> y.addTrain(1, true), y -> y.addTrain(5, false), y -> y.hold(1, true));
    x.book(1, 2, 1, 2);
    x.book(1, 2, 3, 3);
    x.book(1, 3, 5, 5);
    Warpyard early = Yards.made(y -> y.addTrain(1, true), y -> y.addTrain(5, false), y -> y.book(1, 2, 1, 2));
    Check.is("in the minute ahead of it", 2, () -> early.run(1));
    Check.is("it came there", 2, () -> early.block(0));
    x.delay(0, 1);
    Check.is("delayed", 0, () -> x.run(1));
    Check.is("in its first minute", 0, () -> x.run(1));
    Check.is("in its last minute", 0, () -> x.run(1));
    Check.is("in the only minute of the next", 0, () -> x.run(1));
    Check.is("not turned", true, () -> x.isRight(0));
    Check.is("in the minute behind it", 1, () -> x.run(1));
    Check.is("in the minute 5 of the next block", 0, () -> x.run(1));
    Check.is("behind that", 1, () -> x.run(1));
  }

  private static void bookedAndMet() {
    Warpyard x = Yards.made(y -> y.addTrain(2, true), y -> y.addTrain(1, true), y -> y.book(0, 2, 0, 3));
    x.hold(0, true);
    x.run(1);
    Check.is("met", Warpyard.MET, () -> x.booking(0));
    x.hold(0, false);
    Check.is("the first one goes alone", 3, () -> x.run(3));
    Check.is("met, and in the way until its last minute", 1, () -> x.block(1));
    x.run(1);
    Check.is("behind its last minute", 2, () -> x.block(1));
  }

  private static void bookedForItself() {
    Warpyard x = Yards.made(y -> y.addTrain(1, true), y -> y.book(0, 2, 0, 9), y -> y.book(0, 2, 0, 0));
    Check.is("booked for itself", 1, () -> x.run(1));
    Warpyard y = Yards.made(z -> z.addTrain(1, true), z -> z.addTrain(5, false), z -> z.hold(1, true));
    y.book(1, 3, 0, 0);
    y.book(1, 1, 0, 0);
    y.book(1, 6, 0, 0);
    Check.is("other blocks are booked", 1, () -> y.run(1));
  }

  private static void bookedUnderATrain() {
    Warpyard x = Yards.made(y -> y.addTrain(1, true), y -> y.addTrain(5, false), y -> y.book(1, 1, 0, 9));
    x.hold(1, true);
    x.hold(0, true);
    Check.is("it stays on what is booked for another", 0, () -> x.run(1));
    Check.is("it stays", 1, () -> x.block(0));
    x.hold(0, false);
    Check.is("and may leave it", 1, () -> x.run(1));
  }

  private static void minuteThatMoves() {
    Check.says(TERMS, "otherwise it stands on that block then");
    Warpyard x = Yards.made(y -> y.addTrain(2, false));
    Check.is("one block a minute", 1, () -> x.run(1));
    Check.is("it stands there", 1, () -> x.block(0));
    Check.is("it is found there", 0, () -> x.trainOn(1));
    Check.is("and no longer where it was", NONE, () -> x.trainOn(2));
    Check.is("heading as before", false, () -> x.isRight(0));
  }

  private static void clockGrows() {
    Check.says(TERMS, "Behind all trains the clock grows by 1");
    for (int count = 0; count <= 4; count++) {
      Warpyard x = Yards.made(Yards.trains(count), y -> y.run(1));
      Check.is("one minute with " + count + " trains", 1, () -> x.clock());
      x.run(100);
      Check.is("hundred more", 101, () -> x.clock());
    }
  }

  private static void minuteIsTheClockAhead() {
    Check.says(TERMS, "it begins with 0, and the minute that runs is the clock ahead of that");
    Warpyard x = Yards.made(y -> y.addTrain(0, true), y -> y.addTrain(5, true), y -> y.hold(1, true));
    Check.is("clock", 0, () -> x.clock());
    x.book(1, 1, 0, 0);
    x.book(1, 5, 0, 0);
    Check.is("the first minute is 0", 0, () -> x.run(1));
    Check.is("the booking of minute 0 is met in it", Warpyard.MET, () -> x.booking(1));
    Check.is("the next minute is 1", 1, () -> x.run(1));
    Check.is("clock", 2, () -> x.clock());
    Warpyard last = Yards.made(Yards.trains(1), Yards.untilClock(4999), y -> y.book(0, 6, 4999, 4999), y -> y.run(1));
    Check.is("the last minute is 4999", Warpyard.MET, () -> last.booking(0));
    Check.is("clock behind it", 5000, () -> last.clock());
  }

  private static void constants() {
    Check.says(TERMS, "The constants: NONE = -1: None");
    Check.is("NONE", -1, () -> Warpyard.NONE);
    Check.says(TERMS, "OPEN = 0, MET = 1, BROKEN = 2: What becomes of a booking");
    Check.is("OPEN", 0, () -> Warpyard.OPEN);
    Check.is("MET", 1, () -> Warpyard.MET);
    Check.is("BROKEN", 2, () -> Warpyard.BROKEN);
  }
}
