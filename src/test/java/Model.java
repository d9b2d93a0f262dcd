import java.util.ArrayDeque;
import java.util.ArrayList;
import java.util.Deque;
import java.util.HashMap;
import java.util.HashSet;
import java.util.List;
import java.util.Map;
import java.util.Set;

/**
 * A second yard, from the document alone and with other means than the class: edges of a graph for the tracks, a map
 * from block and minute for the bookings, states that are marked as minutes run.
 */
final class Model {
  private static final int NONE = -1;

  private static final class Train {
    int block;
    boolean right;
    boolean held;
    int delay;
    final Deque<Waggon> waggons = new ArrayDeque<>();

    Train copy() {
      Train copy = new Train();
      copy.block = block;
      copy.right = right;
      copy.held = held;
      copy.delay = delay;
      return copy;
    }
  }

  private static final class Booking {
    int train;
    int block;
    int first;
    int last;
    int state = 0;
    int late = NONE;
  }

  private static final class Waggon {
    int number;
    int weight;
    int[] offer;
  }

  private List<Train> trains = new ArrayList<>();
  private final boolean[] turned = new boolean[2];
  private final List<Booking> bookings = new ArrayList<>();
  private final Map<Integer, Integer> bookedFor = new HashMap<>();
  private final List<Waggon> waggons = new ArrayList<>();
  private final List<Deque<Waggon>> sidings = List.of(new ArrayDeque<>(), new ArrayDeque<>());
  private int clock;
  private int earned;

  int addTrain(int block, boolean isRight) {
    noSuch(block < 0 || block > 7);
    badState(trains.size() == 4 || trainOn(block) != NONE);
    Train train = new Train();
    train.block = block;
    train.right = isRight;
    trains.add(train);
    return trains.size() - 1;
  }

  boolean hold(int train, boolean is) {
    Train one = train(train);
    boolean changes = one.held ^ is;
    one.held = is;
    return changes;
  }

  int delay(int train, int minutes) {
    Train one = train(train);
    badArgument(minutes < 1 || minutes > 100 || one.delay + minutes > 1000);
    return one.delay += minutes;
  }

  boolean reverse(int train) {
    return train(train).right ^= true;
  }

  boolean throwSwitch(int number) {
    noSuch(number != 0 && number != 1);
    return turned[number] ^= true;
  }

  int block(int train) {
    return train(train).block;
  }

  boolean isRight(int train) {
    return train(train).right;
  }

  int trainOn(int block) {
    noSuch(block < 0 || block > 7);
    for (Train train : trains) {
      if (train.block == block) {
        return trains.indexOf(train);
      }
    }
    return NONE;
  }

  int run(int minutes) {
    badArgument(minutes < 1 || minutes > 100);
    badState(clock + minutes > 5000);
    int moves = 0;
    for (int i = 0; i < minutes; i++) {
      moves += moveAll(clock);
      settleBookings();
      clock++;
    }
    return moves;
  }

  int clock() {
    return clock;
  }

  int reaches(int train, int block) {
    train(train);
    noSuch(block < 0 || block > 7);
    List<Train> kept = trains;
    trains = new ArrayList<>();
    for (Train one : kept) {
      trains.add(one.copy());
    }
    int minutes = 0;
    while (minutes <= 100 && trains.get(train).block != block) {
      moveAll(clock + minutes);
      minutes++;
    }
    trains = kept;
    return minutes <= 100 ? minutes : NONE;
  }

  int book(int train, int block, int first, int last) {
    train(train);
    noSuch(block < 0 || block > 7);
    badArgument(first < clock || first > 5000 || last < first || last > 5000);
    badState(bookings.size() == 30);
    if (!isFree(train, block, first, last)) {
      return NONE;
    }
    Booking booking = new Booking();
    booking.train = train;
    booking.block = block;
    booking.first = first;
    booking.last = last;
    bookings.add(booking);
    for (int minute = first; minute <= last; minute++) {
      bookedFor.put(block * 10000 + minute, train);
    }
    return bookings.size() - 1;
  }

  boolean canBook(int train, int block, int first, int last) {
    train(train);
    noSuch(block < 0 || block > 7);
    badArgument(first < 0 || first > 5000 || last < first || last > 5000);
    return isFree(train, block, first, last);
  }

  int booking(int booking) {
    noSuch(booking < 0 || booking >= bookings.size());
    return bookings.get(booking).state;
  }

  int late(int booking) {
    noSuch(booking < 0 || booking >= bookings.size());
    return bookings.get(booking).late;
  }

  int addWaggon(int siding, int weight) {
    Deque<Waggon> row = siding(siding);
    badArgument(weight < 1 || weight > 100);
    badState(waggons.size() == 8 || row.size() == 4);
    Waggon waggon = new Waggon();
    waggon.number = waggons.size();
    waggon.weight = weight;
    waggons.add(waggon);
    row.addFirst(waggon);
    return waggon.number;
  }

  void offer(int waggon, int siding, int minute, int price) {
    noSuch(waggon < 0 || waggon >= waggons.size());
    siding(siding);
    badArgument(minute < 0 || minute > 5000 || price < 1 || price > 1000);
    waggons.get(waggon).offer = new int[] {siding, minute, price};
  }

  int couple(int train) {
    Train one = train(train);
    badState(one.block < 6 || siding(one.block).isEmpty());
    Waggon waggon = siding(one.block).peekFirst();
    badState(one.waggons.stream().mapToInt(w -> w.weight).sum() + waggon.weight > 100);
    one.waggons.addLast(siding(one.block).pollFirst());
    return waggon.number;
  }

  int leave(int train) {
    Train one = train(train);
    badState(one.block < 6 || one.waggons.isEmpty() || siding(one.block).size() == 4);
    Waggon waggon = one.waggons.pollLast();
    siding(one.block).addFirst(waggon);
    if (waggon.offer == null || waggon.offer[0] != one.block) {
      return 0;
    }
    int price = waggon.offer[2];
    for (int begun = waggon.offer[1]; begun < clock && price > 0; begun += 60) {
      price -= 10;
    }
    waggon.offer = null;
    price = Math.max(price, 0);
    earned += price;
    return price;
  }

  int waggonAt(int where, int place) {
    noSuch(place < 0);
    Deque<Waggon> row = where >= 10 ? train(where - 10).waggons : siding(where);
    return row.stream().skip(place).map(w -> w.number).findFirst().orElse(NONE);
  }

  int earned() {
    return earned;
  }

  private int moveAll(int minute) {
    int moves = 0;
    for (int i = 0; i < trains.size(); i++) {
      Train train = trains.get(i);
      if (train.delay > 0) {
        train.delay--;
      } else if (!train.held) {
        if (train.right ? Set.of(5, 6, 7).contains(train.block) : train.block == 0) {
          train.right = !train.right;
        } else {
          int to = joinedTo(train.block, train.right);
          if (to != NONE && trainOn(to) == NONE && bookedFor.getOrDefault(to * 10000 + minute, i) == i) {
            train.block = to;
            moves++;
          }
        }
      }
    }
    return moves;
  }

  private int joinedTo(int block, boolean right) {
    Set<List<Integer>> joints = new HashSet<>(List.of(List.of(0, 1), List.of(2, 3), List.of(4, 5)));
    joints.add(List.of(1, turned[0] ? 6 : 2));
    joints.add(List.of(3, turned[1] ? 7 : 4));
    for (List<Integer> joint : joints) {
      if (joint.get(right ? 0 : 1) == block) {
        return joint.get(right ? 1 : 0);
      }
    }
    return NONE;
  }

  private void settleBookings() {
    for (Booking booking : bookings) {
      boolean runs = booking.first <= clock && clock <= booking.last;
      if (booking.state == 0 && runs && trains.get(booking.train).block == booking.block) {
        booking.state = 1;
        booking.late = clock - booking.first;
      }
      if (booking.state == 0 && clock == booking.last) {
        booking.state = 2;
      }
    }
  }

  private boolean isFree(int train, int block, int first, int last) {
    for (int minute = first; minute <= last; minute++) {
      if (bookedFor.getOrDefault(block * 10000 + minute, train) != train) {
        return false;
      }
    }
    return true;
  }

  private Train train(int train) {
    noSuch(train < 0 || train >= trains.size());
    return trains.get(train);
  }

  private Deque<Waggon> siding(int siding) {
    noSuch(siding != 6 && siding != 7);
    return sidings.get(siding - 6);
  }

  private static void noSuch(boolean is) {
    if (is) {
      throw new IndexOutOfBoundsException();
    }
  }

  private static void badArgument(boolean is) {
    if (is) {
      throw new IllegalArgumentException();
    }
  }

  private static void badState(boolean is) {
    if (is) {
      throw new IllegalStateException();
    }
  }
}
