/** The sentences about waggons and offers: those of 'Terms', and the promises 18 to 23. */
final class WaggonSentences {
  private static final int NONE = Warpyard.NONE;
  private static final String TERMS = "Terms";
  private static final String A_TRAIN = "train: the number of a train";
  private static final String NO_TRAIN = "Throws IndexOutOfBoundsException if there is no such train";
  private static final String A_SIDING = "siding: 6 or 7";

  private WaggonSentences() {
  }

  static void test() {
    numbers();
    weightAndPlace();
    rowOfSiding();
    mayCouple();
    mayLeave();
    notInTheWay();
    mayHaveAnOffer();
    offerIsDone();
    addWaggon();
    addWaggonRefused();
    offer();
    offerRefused();
    couple();
    coupleRefused();
    leave();
    leaveRefused();
    waggonAt();
    waggonAtRefused();
    earned();
  }

  /** A held train on each siding; 0 on 6, 1 on 7. */
  private static void two(Warpyard x) {
    x.addTrain(6, true);
    x.addTrain(7, true);
    x.hold(0, true);
    x.hold(1, true);
  }

  private static Told waggons(int siding, int... weights) {
    return x -> {
      for (int weight : weights) {
        x.addWaggon(siding, weight);
      }
    };
  }

  private static void rowIs(String what, Warpyard x, int where, int... due) {
    for (int i = 0; i <= due.length; i++) {
      int place = i;
      Check.is(what + ", place " + place + " of " + where, place < due.length ? due[place] : NONE,
          () -> x.waggonAt(where, place));
    }
  }

  private static void numbers() {
    Check.says(TERMS, "Waggons are numbered from 0, up to 8");
    Warpyard x = Yards.made(WaggonSentences::two);
    for (int i = 0; i < 8; i++) {
      int number = i;
      Check.is("addWaggon", number, () -> x.addWaggon(6 + number % 2, 1));
    }
    Check.quiet("an offer for the eighth", () -> x.offer(7, 6, 0, 1));
    Check.noSuch("an offer for a ninth", () -> x.offer(8, 6, 0, 1));
    x.couple(0);
    Check.badState("a ninth, though there is room", () -> x.addWaggon(6, 1));
  }

  private static void weightAndPlace() {
    Check.says(TERMS, "A waggon has a weight, and is in a siding or on a train");
    Warpyard x = Yards.made(WaggonSentences::two, waggons(6, 60), waggons(7, 41), y -> y.couple(0));
    rowIs("coupled", x, 6);
    rowIs("coupled", x, 10, 0);
    rowIs("not coupled", x, 7, 1);
    rowIs("not coupled", x, 11);
    x.leave(0);
    rowIs("left", x, 6, 0);
    rowIs("left", x, 10);
    Warpyard y = Yards.made(WaggonSentences::two, waggons(6, 60, 41), z -> z.couple(0));
    Check.badState("its weight goes with it", () -> y.couple(0));
    Warpyard z = Yards.made(WaggonSentences::two, waggons(6, 60, 40), w -> w.couple(0));
    Check.is("one less", 0, () -> z.couple(0));
  }

  private static void rowOfSiding() {
    Check.says(TERMS, "In a siding waggons lie in a row, up to 4, the last one that came at the switch");
    for (int siding = 6; siding <= 7; siding++) {
      int number = siding;
      Warpyard x = Yards.made(WaggonSentences::two);
      rowIs("empty", x, siding);
      x.addWaggon(siding, 1);
      rowIs("one", x, siding, 0);
      x.addWaggon(siding, 1);
      x.addWaggon(siding, 1);
      rowIs("three", x, siding, 2, 1, 0);
      x.addWaggon(siding, 1);
      rowIs("four", x, siding, 3, 2, 1, 0);
      Check.badState("a fifth", () -> x.addWaggon(number, 1));
      x.couple(siding - 6);
      rowIs("three again", x, siding, 2, 1, 0);
      Check.is("room for one", 4, () -> x.addWaggon(number, 1));
      rowIs("the last one that came", x, siding, 4, 2, 1, 0);
      Check.badState("no room for the one that was coupled", () -> x.leave(number - 6));
      Check.is("the other siding is another", 5, () -> x.addWaggon(13 - number, 1));
    }
  }

  private static void mayCouple() {
    Check.says(TERMS, "A train that stands on a siding may couple the waggon at the switch, which becomes its last one,"
        + " if all its waggons weigh 100 together at most then");
    Warpyard x = Yards.made(WaggonSentences::two, waggons(6, 1, 40, 59), waggons(7, 30), y -> y.couple(0));
    rowIs("the one at the switch", x, 10, 2);
    Check.is("99 together", 1, () -> x.couple(0));
    rowIs("becomes its last one", x, 10, 2, 1);
    Check.is("100 together", 0, () -> x.couple(0));
    rowIs("becomes its last one", x, 10, 2, 1, 0);
    Check.is("the other train has its own weight", 3, () -> x.couple(1));
    x.addWaggon(6, 1);
    Check.badState("101 together", () -> x.couple(0));
    x.leave(0);
    x.couple(0);
    Check.badState("100 again", () -> x.couple(0));
    Warpyard y = Yards.made(WaggonSentences::two, waggons(6, 100));
    Check.is("100 alone", 0, () -> y.couple(0));
    Warpyard eight = Yards.made(WaggonSentences::two);
    for (int i = 0; i < 8; i++) {
      int number = i;
      eight.addWaggon(7, i < 4 ? 12 : 13);
      Check.is("up to eight of 100 together", number, () -> eight.couple(1));
    }
    rowIs("all eight", eight, 11, 0, 1, 2, 3, 4, 5, 6, 7);
  }

  private static void mayLeave() {
    Check.says(TERMS, "and it may leave its last waggon, at the switch");
    Warpyard x = Yards.made(WaggonSentences::two, waggons(6, 10, 10, 10), waggons(7, 10), y -> y.couple(0),
        y -> y.couple(0));
    rowIs("coupled", x, 10, 2, 1);
    x.leave(0);
    rowIs("its last one", x, 10, 2);
    rowIs("at the switch", x, 6, 1, 0);
    x.leave(0);
    rowIs("the other one", x, 10);
    rowIs("at the switch", x, 6, 2, 1, 0);
    rowIs("the other siding", x, 7, 3);
  }

  private static void notInTheWay() {
    Check.says(TERMS, "Waggons are not in the way of trains");
    Warpyard x = Yards.made(y -> y.addTrain(1, true), y -> y.throwSwitch(0), waggons(6, 1, 1, 1, 1));
    Check.is("into a full siding", 1, () -> x.run(1));
    Check.is("block", 6, () -> x.block(0));
    Check.is("to its dead end, and out again", 1, () -> x.run(2));
    Check.is("block", 1, () -> x.block(0));
  }

  private static void mayHaveAnOffer() {
    Check.says(TERMS, "A waggon may have an offer: to be left in a siding by a minute, for a price");
    for (int siding = 6; siding <= 7; siding++) {
      int own = siding;
      Told coupled = Yards.all(WaggonSentences::two, waggons(siding, 5), y -> y.couple(own - 6));
      Warpyard x = Yards.made(coupled, y -> y.offer(0, own, 9, 77));
      Check.is("left in its siding", 77, () -> x.leave(own - 6));
      Warpyard y = Yards.made(coupled, z -> z.offer(0, 13 - own, 9, 77));
      Check.is("left in the other siding", 0, () -> y.leave(own - 6));
      Warpyard z = Yards.made(coupled);
      Check.is("without an offer", 0, () -> z.leave(own - 6));
      Warpyard lies = Yards.made(WaggonSentences::two, waggons(siding, 5), w -> w.offer(0, own, 9, 77), w -> w.run(9));
      Check.is("it lies there, and is not left there", 0, () -> lies.earned());
      lies.couple(own - 6);
      Check.is("coupling does no offer", 0, () -> lies.earned());
      Check.is("left there", 77, () -> lies.leave(own - 6));
    }
    Warpyard two = Yards.made(WaggonSentences::two, waggons(6, 5, 5), y -> y.offer(0, 6, 0, 30),
        y -> y.offer(1, 6, 0, 40));
    two.couple(0);
    two.couple(0);
    Check.is("the last one's", 30, () -> two.leave(0));
    Check.is("the other one's", 40, () -> two.leave(0));
  }

  private static void offerIsDone() {
    Check.says(TERMS, "When it is left there, the offer is done, and the price is earned, less 10 for each begun hour"
        + " that the clock is behind that minute, but not less than 0");
    int[][] priceMinuteClockDue = {
      {100, 5000, 0, 100}, {100, 250, 10, 100}, {100, 10, 0, 100}, {100, 10, 9, 100}, {100, 10, 10, 100},
      {100, 10, 11, 90}, {100, 10, 69, 90}, {100, 10, 70, 90}, {100, 10, 71, 80}, {100, 10, 130, 80},
      {100, 10, 131, 70}, {100, 0, 480, 20}, {100, 0, 481, 10}, {100, 0, 540, 10}, {100, 0, 541, 0}, {100, 0, 600, 0},
      {100, 0, 601, 0}, {11, 0, 1, 1}, {10, 0, 1, 0}, {9, 0, 1, 0}, {1, 0, 1, 0}, {1, 0, 0, 1}, {1000, 0, 5000, 160},
      {1000, 4999, 5000, 990}, {1000, 5000, 5000, 1000}, {1, 5000, 5000, 1},
    };
    for (int[] one : priceMinuteClockDue) {
      Warpyard x = Yards.made(WaggonSentences::two, waggons(6, 1), y -> y.couple(0),
          y -> y.offer(0, 6, one[1], one[0]));
      Yards.untilClock(one[2]).to(x);
      String what = one[0] + " by " + one[1] + " at " + one[2];
      Check.is(what, one[3], () -> x.leave(0));
      Check.is(what + ", earned", one[3], () -> x.earned());
      x.couple(0);
      Check.is(what + ", done", 0, () -> x.leave(0));
      Check.is(what + ", earned once", one[3], () -> x.earned());
    }
  }

  private static void addWaggon() {
    Check.says("addWaggon", "Puts a waggon into a siding, at the switch");
    Warpyard x = Yards.made(WaggonSentences::two, waggons(6, 1, 1), waggons(7, 1));
    rowIs("siding", x, 6, 1, 0);
    rowIs("siding", x, 7, 2);
    Check.says("addWaggon", A_SIDING);
    for (int siding = 6; siding <= 7; siding++) {
      int number = siding;
      Warpyard y = new Warpyard();
      Check.is("siding " + siding, 0, () -> y.addWaggon(number, 1));
      rowIs("siding", y, siding, 0);
      rowIs("the other", y, 13 - siding);
    }
    Check.says("addWaggon", "weight: 1 to 100");
    Warpyard y = new Warpyard();
    Check.is("1", 0, () -> y.addWaggon(6, 1));
    Check.is("100", 1, () -> y.addWaggon(6, 100));
    Check.says("addWaggon", "Returns its number");
    Warpyard z = new Warpyard();
    Check.is("first", 0, () -> z.addWaggon(7, 1));
    Check.badArgument("refused", () -> z.addWaggon(7, 0));
    Check.is("what is refused takes no number", 1, () -> z.addWaggon(6, 1));
  }

  private static void addWaggonRefused() {
    Check.says("addWaggon", "Throws IndexOutOfBoundsException if there is no such siding");
    for (int wrong : Yards.outside(6, 7)) {
      Refusal.noSuch("siding " + wrong, Yards.trains(2), x -> x.addWaggon(wrong, 1));
    }
    for (int block = 0; block < 6; block++) {
      int number = block;
      Refusal.noSuch("block " + block, Yards.trains(2), x -> x.addWaggon(number, 1));
    }
    Check.says("addWaggon", "Throws IllegalArgumentException if weight is out of range");
    for (int wrong : Yards.outside(1, 100)) {
      Refusal.badArgument("weight " + wrong, Yards.trains(2), x -> x.addWaggon(7, wrong));
    }
    Check.says("addWaggon", "Throws IllegalStateException if there are 8 waggons, or 4 in the siding");
    Told four = Yards.all(WaggonSentences::two, waggons(6, 1, 2, 3, 4));
    Refusal.badState("4 in the siding 6", four, x -> x.addWaggon(6, 1));
    Told fourIn7 = Yards.all(WaggonSentences::two, waggons(7, 1, 2, 3, 4));
    Refusal.badState("4 in the siding 7", fourIn7, x -> x.addWaggon(7, 1));
    Told eight = Yards.all(four, waggons(7, 5, 6, 7, 8));
    Refusal.badState("8 waggons, in full sidings", eight, x -> x.addWaggon(7, 1));
    Told room = Yards.all(eight, x -> x.couple(1));
    Refusal.badState("8 waggons, with room in the siding", room, x -> x.addWaggon(7, 1));
    Refusal.badState("8 waggons, and 4 in the siding", room, x -> x.addWaggon(6, 1));
    Warpyard x = Yards.made(four);
    Check.is("4 in the other siding", 4, () -> x.addWaggon(7, 1));
    Warpyard y = Yards.made(WaggonSentences::two, waggons(6, 1, 2, 3), waggons(7, 5, 6, 7, 8));
    Check.is("the eighth, and the fourth in the siding", 7, () -> y.addWaggon(6, 1));
  }

  private static void offer() {
    Check.says("offer", "Offers a price for a waggon, in place of an offer that it has");
    Told coupled = Yards.all(WaggonSentences::two, waggons(6, 5, 5), y -> y.couple(0));
    Warpyard x = Yards.made(coupled, y -> y.offer(1, 6, 0, 900), y -> y.offer(1, 6, 9, 8));
    Check.is("the second price", 8, () -> x.leave(0));
    Warpyard other = Yards.made(coupled, y -> y.offer(1, 6, 0, 900), y -> y.offer(1, 7, 9, 8));
    Check.is("the second siding", 0, () -> other.leave(0));
    Warpyard by = Yards.made(coupled, y -> y.offer(1, 6, 0, 50), y -> y.offer(1, 6, 5, 50), y -> y.run(5));
    Check.is("the second minute", 50, () -> by.leave(0));
    Warpyard done = Yards.made(coupled, y -> y.offer(1, 6, 0, 50), y -> y.leave(0), y -> y.couple(0),
        y -> y.offer(1, 6, 0, 7));
    Check.is("one behind one that is done", 7, () -> done.leave(0));
    Warpyard past = Yards.made(coupled, y -> y.run(61), y -> y.offer(1, 6, 0, 50));
    Check.is("by a minute that is past", 30, () -> past.leave(0));
    Check.says("offer", "waggon: the number of a waggon");
    for (int count = 1; count <= 8; count++) {
      Warpyard y = Yards.made(someWaggons(count));
      for (int i = 0; i < count; i++) {
        int number = i;
        Check.quiet("waggon " + i + " of " + count, () -> y.offer(number, 6, 0, 1));
      }
    }
    Check.says("offer", A_SIDING);
    Warpyard y = Yards.made(coupled);
    Check.quiet("7", () -> y.offer(1, 7, 0, 1));
    Check.quiet("6", () -> y.offer(1, 6, 0, 1));
    Check.is("in 6", 1, () -> y.leave(0));
    Check.says("offer", "minute: 0 to 5000");
    Check.quiet("0", () -> y.offer(0, 6, 0, 1));
    Check.quiet("5000", () -> y.offer(0, 6, 5000, 1));
    Check.says("offer", "price: 1 to 1000");
    Check.quiet("1", () -> y.offer(0, 6, 0, 1));
    Check.quiet("1000", () -> y.offer(0, 6, 0, 1000));
  }

  private static Told someWaggons(int count) {
    return x -> {
      for (int i = 0; i < count; i++) {
        x.addWaggon(6 + i % 2, 1);
      }
    };
  }

  private static void offerRefused() {
    Check.says("offer", "Throws IndexOutOfBoundsException if there is no such waggon or siding");
    for (int count = 0; count <= 8; count++) {
      for (int wrong : Yards.outside(0, count - 1)) {
        Refusal.noSuch("waggon " + wrong + " of " + count, someWaggons(count), x -> x.offer(wrong, 6, 0, 1));
      }
    }
    for (int wrong : Yards.outside(6, 7)) {
      Refusal.noSuch("siding " + wrong, Yards.trains(2), x -> x.offer(0, wrong, 0, 1));
    }
    Refusal.noSuch("siding 0", Yards.trains(2), x -> x.offer(0, 0, 0, 1));
    Check.says("offer", "Throws IllegalArgumentException if minute or price is out of range");
    for (int wrong : Yards.outside(0, 5000)) {
      Refusal.badArgument("minute " + wrong, Yards.trains(2), x -> x.offer(0, 6, wrong, 1));
    }
    for (int wrong : Yards.outside(1, 1000)) {
      Refusal.badArgument("price " + wrong, Yards.trains(2), x -> x.offer(0, 6, 0, wrong));
    }
  }

  private static void couple() {
    Check.says("couple", "Lets a train couple a waggon");
    Warpyard x = Yards.made(WaggonSentences::two, waggons(6, 7), y -> y.couple(0));
    rowIs("on the train", x, 10, 0);
    rowIs("no longer in the siding", x, 6);
    Check.is("no time passes", 0, () -> x.clock());
    Check.says("couple", A_TRAIN);
    for (int i = 0; i < 4; i++) {
      int number = i;
      Warpyard y = Yards.made(waggons(6, 7), z -> trainsBefore(z, number), z -> z.addTrain(6, true));
      Check.is("train " + number, 0, () -> y.couple(number));
      rowIs("on the train " + number, y, 10 + number, 0);
    }
    Check.says("couple", "Returns the waggon");
    Warpyard z = Yards.made(WaggonSentences::two, waggons(6, 7), waggons(7, 7, 7, 7));
    Check.is("the last one of 7", 3, () -> z.couple(1));
    Check.is("the one of 6", 0, () -> z.couple(0));
    Check.is("the next of 7", 2, () -> z.couple(1));
    Check.says("couple", NO_TRAIN);
    Yards.noSuchTrain((y, train) -> y.couple(train));
  }

  private static void trainsBefore(Warpyard x, int count) {
    for (int train = 0; train < count; train++) {
      x.addTrain(train, true);
    }
  }

  private static void coupleRefused() {
    Check.says("couple", "Throws IllegalStateException if it stands on no siding, there is no waggon, or all would"
        + " weigh too much");
    for (int i = 0; i < 6; i++) {
      int block = i;
      Told made = Yards.all(x -> x.addTrain(block, true), waggons(6, 1), waggons(7, 1));
      Refusal.badState("on block " + block, made, x -> x.couple(0));
    }
    Refusal.badState("no waggon at all", WaggonSentences::two, x -> x.couple(0));
    Refusal.badState("none in 6", Yards.all(WaggonSentences::two, waggons(7, 1)), x -> x.couple(0));
    Refusal.badState("none in 7", Yards.all(WaggonSentences::two, waggons(6, 1)), x -> x.couple(1));
    Told last = Yards.all(WaggonSentences::two, waggons(6, 1), x -> x.couple(0));
    Refusal.badState("none is left", last, x -> x.couple(0));
    Told heavy = Yards.all(WaggonSentences::two, waggons(6, 61, 20, 20), x -> x.couple(0));
    Refusal.badState("101 together", Yards.all(heavy, x -> x.couple(0)), x -> x.couple(0));
    Told most = Yards.all(WaggonSentences::two, waggons(7, 100, 100), x -> x.couple(1));
    Refusal.badState("200 together", most, x -> x.couple(1));
    Warpyard x = Yards.made(heavy);
    Check.is("40 together", 1, () -> x.couple(0));
    Warpyard y = Yards.made(WaggonSentences::two, waggons(6, 60, 20, 20), z -> z.couple(0), z -> z.couple(0));
    Check.is("100 together", 0, () -> y.couple(0));
  }

  private static void leave() {
    Check.says("leave", "Lets a train leave its last waggon");
    Warpyard x = Yards.made(WaggonSentences::two, waggons(6, 7, 7), y -> y.couple(0), y -> y.couple(0),
        y -> y.leave(0));
    rowIs("the first one stays", x, 10, 1);
    rowIs("in the siding", x, 6, 0);
    Check.says("leave", A_TRAIN);
    for (int i = 0; i < 4; i++) {
      int number = i;
      Warpyard y = Yards.made(waggons(6, 7), z -> trainsBefore(z, number), z -> z.addTrain(6, true),
          z -> z.couple(number));
      y.offer(0, 6, 0, 5);
      Check.is("train " + number, 5, () -> y.leave(number));
      rowIs("of the train " + number, y, 10 + number);
    }
    Check.says("leave", "Returns what is earned by that");
    Warpyard z = Yards.made(WaggonSentences::two, waggons(6, 7), waggons(7, 7), y -> y.couple(0), y -> y.couple(1));
    z.offer(0, 6, 0, 50);
    z.offer(1, 7, 0, 60);
    Check.is("the first", 50, () -> z.leave(0));
    Check.is("the second alone", 60, () -> z.leave(1));
    z.couple(0);
    z.offer(0, 6, 0, 15);
    z.run(1);
    Check.is("less, for being late", 5, () -> z.leave(0));
    Check.says("leave", "0 if no offer is done");
    z.couple(0);
    Check.is("no offer", 0, () -> z.leave(0));
    z.couple(0);
    z.offer(0, 7, 0, 50);
    Check.is("an offer for the other siding", 0, () -> z.leave(0));
    Check.is("nothing more is earned", 115, () -> z.earned());
    otherOfferStays();
    Check.says("leave", NO_TRAIN);
    Yards.noSuchTrain((y, train) -> y.leave(train));
  }

  private static void otherOfferStays() {
    Warpyard x = Yards.made(y -> y.addTrain(6, false), waggons(6, 7), y -> y.couple(0), y -> y.offer(0, 7, 9, 50));
    x.leave(0);
    x.couple(0);
    x.throwSwitch(0);
    x.run(1);
    x.throwSwitch(0);
    x.throwSwitch(1);
    x.reverse(0);
    x.run(3);
    Check.is("in the other siding", 7, () -> x.block(0));
    Check.is("there the offer is done", 50, () -> x.leave(0));
  }

  private static void leaveRefused() {
    Check.says("leave", "Throws IllegalStateException if it stands on no siding, has no waggon, or there are 4 in the"
        + " siding");
    Told out = x -> {
      x.addTrain(6, false);
      x.addWaggon(6, 7);
      x.couple(0);
      x.throwSwitch(0);
      x.run(1);
      x.throwSwitch(0);
      x.reverse(0);
    };
    for (int minutes = 0; minutes < 5; minutes++) {
      int run = minutes;
      Told made = minutes == 0 ? out : Yards.all(out, x -> x.run(run));
      Check.is("block", 1 + run, () -> Yards.made(made).block(0));
      Refusal.badState("on block " + (1 + run), made, x -> x.leave(0));
    }
    Refusal.badState("no waggon", Yards.all(WaggonSentences::two, waggons(6, 1)), x -> x.leave(0));
    Told left = Yards.all(WaggonSentences::two, waggons(6, 1), x -> x.couple(0), x -> x.leave(0));
    Refusal.badState("no waggon any longer", left, x -> x.leave(0));
    for (int siding = 6; siding <= 7; siding++) {
      int train = siding - 6;
      Told coupled = Yards.all(WaggonSentences::two, waggons(siding, 9), x -> x.couple(train));
      Told offered = Yards.all(coupled, x -> x.offer(0, 6 + train, 0, 90));
      Refusal.badState("4 in " + siding, Yards.all(offered, waggons(siding, 1, 2, 3, 4)), x -> x.leave(train));
      Refusal.badState("no waggon, and 4 in " + siding, Yards.all(WaggonSentences::two, waggons(siding, 1, 2, 3, 4)),
          x -> x.leave(train));
      Warpyard three = Yards.made(offered, waggons(siding, 1, 2, 3), waggons(13 - siding, 1, 2, 3, 4));
      Check.is("3 in it, and 4 in the other", 90, () -> three.leave(train));
    }
  }

  private static void waggonAt() {
    Check.says("waggonAt", "Returns a waggon of a siding, counted from the switch on, or of a train, counted from its"
        + " first one on");
    Warpyard x = Yards.made(WaggonSentences::two, waggons(6, 1, 1, 1, 1), y -> y.couple(0), y -> y.couple(0));
    rowIs("siding", x, 6, 1, 0);
    rowIs("train", x, 10, 3, 2);
    Check.says("waggonAt", "where: 6 or 7 for the siding");
    x.addWaggon(7, 1);
    rowIs("7", x, 7, 4);
    rowIs("6", x, 6, 1, 0);
    Check.says("waggonAt", "or the number of a train and 10, together");
    for (int count = 1; count <= 4; count++) {
      int train = count - 1;
      Warpyard y = Yards.made(waggons(6, 7), z -> trainsBefore(z, train), z -> z.addTrain(6, true),
          z -> z.couple(train));
      for (int i = 0; i < count; i++) {
        int number = i;
        Check.is("train " + i, i == train ? 0 : NONE, () -> y.waggonAt(10 + number, 0));
      }
    }
    Check.says("waggonAt", "place: from 0");
    Check.is("0", 3, () -> x.waggonAt(10, 0));
    Check.is("0", 1, () -> x.waggonAt(6, 0));
    Check.says("waggonAt", "Returns the waggon");
    Check.is("the last of the train", 2, () -> x.waggonAt(10, 1));
    Check.is("the last of the siding", 0, () -> x.waggonAt(6, 1));
    Check.says("waggonAt", "NONE if there are not so many");
    for (int where : new int[] {6, 7, 10, 11}) {
      for (int place : new int[] {2, 3, 4, 7, 8, 9, 1000, 1 << 29, 1 << 30, Integer.MAX_VALUE}) {
        Check.is(where + " at " + place, NONE, () -> x.waggonAt(where, place));
      }
    }
    Warpyard empty = Yards.made(WaggonSentences::two);
    for (int where : new int[] {6, 7, 10, 11}) {
      Check.is("empty " + where, NONE, () -> empty.waggonAt(where, 0));
    }
  }

  private static void waggonAtRefused() {
    Check.says("waggonAt", "Throws IndexOutOfBoundsException if there is no such siding or train, or place is below 0");
    for (int count = 0; count <= 4; count++) {
      for (int wrong : Yards.outside(10, 9 + count)) {
        Refusal.noSuch("where " + wrong + " with " + count, Yards.trains(count), x -> x.waggonAt(wrong, 0));
      }
    }
    for (int wrong : new int[] {-1, 0, 1, 2, 3, 4, 5, 8, 9}) {
      Refusal.noSuch("where " + wrong, Yards.trains(4), x -> x.waggonAt(wrong, 0));
    }
    for (int where : new int[] {6, 7, 10, 13}) {
      for (int place : new int[] {-1, -2, Integer.MIN_VALUE}) {
        Refusal.noSuch(where + " at " + place, Yards.trains(4), x -> x.waggonAt(where, place));
      }
    }
    Refusal.noSuch("no such train, place -1", Yards.trains(3), x -> x.waggonAt(13, -1));
  }

  private static void earned() {
    Check.says("earned", "Returns all that was earned");
    Warpyard x = Yards.made(WaggonSentences::two, waggons(6, 1), waggons(7, 1));
    Check.is("nothing", 0, () -> x.earned());
    int sum = 0;
    for (int i = 1; i <= 50; i++) {
      int train = i % 2;
      int price = 20 * i;
      x.couple(train);
      x.offer(train, 6 + train, 0, price);
      x.leave(train);
      sum += price;
      int due = sum;
      Check.is("earned " + i + " times", due, () -> x.earned());
    }
    x.couple(0);
    x.leave(0);
    Check.is("no offer, nothing more", 25500, () -> x.earned());
  }
}
