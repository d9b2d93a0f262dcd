import java.util.Random;

/** Long runs of calls, drawn with fixed seeds; each answer against that of the model. */
public final class ModelTest {
  private static final int RUNS = 3000;
  private static final int CALLS = 512;

  private final Random random;
  private final Warpyard yard = new Warpyard();
  private final Model model = new Model();
  /** How many in 100 numbers are out of range on purpose. */
  private final int wrongs;
  /** How long the minutes run at the most, so that some runs are dense and others come to the clock's end. */
  private final int longest;

  /** Whether delays grow faster than they pass. */
  private final boolean impatient;

  private ModelTest(int seed) {
    random = new Random(seed);
    wrongs = seed % 4 == 0 ? 15 : 1;
    longest = new int[] {2, 6, 20, 100}[seed / 4 % 4];
    impatient = seed % 7 == 0;
  }

  public static void main(String[] args) {
    for (int seed = 1; seed <= RUNS; seed++) {
      new ModelTest(seed).compare(seed);
    }
    Check.end("ModelTest");
  }

  private void compare(int seed) {
    int called = seed % 5 == 0 ? runNearlyToTheEnd(seed) : 0;
    for (int call = 0; call < CALLS - called; call++) {
      switch (kind(call)) {
        case 0 -> trainCall(seed, call);
        case 1 -> minuteCall(seed, call);
        case 2 -> bookingCall(seed, call);
        default -> waggonCall(seed, call);
      }
    }
  }

  private int runNearlyToTheEnd(int seed) {
    for (int call = 0; call < 49; call++) {
      same(seed + " run(100) early", () -> yard.run(100), () -> model.run(100));
    }
    return 49;
  }

  /** A yard is filled first, so that later calls find something. */
  private int kind(int call) {
    return call < 12 ? (call % 2 == 0 ? 0 : 3) : random.nextInt(4);
  }

  private void trainCall(int seed, int call) {
    int train = number(0, 3);
    int block = number(0, 7);
    boolean yes = random.nextInt(3) != 0;
    int minutes = random.nextInt(4) == 0 || impatient ? number(1, 100) : number(1, 4);
    String at = seed + "/" + call + " with " + train + " " + block + " " + yes + " " + minutes;
    switch (call < 12 ? 0 : random.nextInt(9)) {
      case 0 -> same(at + " addTrain", () -> yard.addTrain(block, yes), () -> model.addTrain(block, yes));
      case 1 -> same(at + " hold", () -> yard.hold(train, !yes), () -> model.hold(train, !yes));
      case 2 -> same(at + " delay", () -> yard.delay(train, minutes), () -> model.delay(train, minutes));
      case 3 -> same(at + " reverse", () -> yard.reverse(train), () -> model.reverse(train));
      case 4 -> same(at + " trainOn", () -> yard.trainOn(block), () -> model.trainOn(block));
      case 5 -> same(at + " block", () -> yard.block(train), () -> model.block(train));
      case 6 -> same(at + " isRight", () -> yard.isRight(train), () -> model.isRight(train));
      default -> {
        int number = number(0, 1);
        same(at + " throwSwitch " + number, () -> yard.throwSwitch(number), () -> model.throwSwitch(number));
      }
    }
  }

  private void minuteCall(int seed, int call) {
    int train = number(0, 3);
    int block = number(0, 7);
    int minutes = number(1, longest);
    String at = seed + "/" + call + " with " + train + " " + block + " " + minutes;
    switch (random.nextInt(5)) {
      case 0 -> same(at + " clock", () -> yard.clock(), () -> model.clock());
      case 1, 2 -> same(at + " reaches", () -> yard.reaches(train, block), () -> model.reaches(train, block));
      default -> same(at + " run", () -> yard.run(minutes), () -> model.run(minutes));
    }
  }

  private void bookingCall(int seed, int call) {
    int train = number(0, 3);
    int block = number(0, 7);
    int first = number(Math.max(0, model.clock() - 1), Math.min(5000, model.clock() + 12));
    int last = random.nextInt(30) == 0 ? number(0, 5000) : number(first - 1, first + 9);
    int past = random.nextInt(2) == 0 ? first : number(0, 5000);
    int booking = number(0, 29);
    String at = seed + "/" + call + " with " + train + " " + block + " " + first + " " + last + " " + booking;
    switch (random.nextInt(7)) {
      case 0, 1, 2 ->
          same(at + " book", () -> yard.book(train, block, first, last), () -> model.book(train, block, first, last));
      case 3 -> same(at + " canBook", () -> yard.canBook(train, block, past, last),
          () -> model.canBook(train, block, past, last));
      case 4 -> same(at + " canBookByMinutes", () -> yard.canBookByMinutes(train, block, past, last),
          () -> model.canBook(train, block, past, last));
      case 5 -> same(at + " booking", () -> yard.booking(booking), () -> model.booking(booking));
      default -> same(at + " late", () -> yard.late(booking), () -> model.late(booking));
    }
  }

  private void waggonCall(int seed, int call) {
    int train = number(0, 3);
    int waggon = number(0, 7);
    int siding = number(6, 7);
    int weight = random.nextInt(4) == 0 ? number(1, 100) : number(1, 40);
    int minute = random.nextInt(4) == 0 ? number(0, 5000) : number(model.clock() - 100, model.clock() + 20);
    int price = random.nextInt(4) == 0 ? number(1, 1000) : number(1, 60);
    int where = random.nextInt(2) == 0 ? siding : train + 10;
    int place = number(0, random.nextInt(2) == 0 ? 1 : 8);
    String at = seed + "/" + call + " with " + train + " " + waggon + " " + siding + " " + minute + " " + price;
    switch (call < 12 ? 0 : random.nextInt(9)) {
      case 0 -> same(at + " addWaggon", () -> yard.addWaggon(siding, weight), () -> model.addWaggon(siding, weight));
      case 1, 2 -> same(at + " offer", () -> {
        yard.offer(waggon, siding, minute, price);
        return 0;
      }, () -> {
        model.offer(waggon, siding, minute, price);
        return 0;
      });
      case 3, 4 -> same(at + " couple", () -> yard.couple(train), () -> model.couple(train));
      case 5, 6 -> same(at + " leave", () -> yard.leave(train), () -> model.leave(train));
      case 7 -> same(at + " waggonAt " + where + " " + place, () -> yard.waggonAt(where, place),
          () -> model.waggonAt(where, place));
      default -> same(at + " earned", () -> yard.earned(), () -> model.earned());
    }
  }

  private static void same(String what, Check.Call got, Check.Call want) {
    Check.is(what, Check.outcome(want), got);
  }

  private int number(int least, int most) {
    if (random.nextInt(100) >= wrongs) {
      return least + random.nextInt(most - least + 1);
    }
    return switch (random.nextInt(6)) {
      case 0 -> least - 1;
      case 1 -> most + 1;
      case 2 -> -1;
      case 3 -> Integer.MAX_VALUE - random.nextInt(10);
      case 4 -> Integer.MIN_VALUE + random.nextInt(10);
      default -> random.nextInt();
    };
  }
}
