import java.util.ArrayDeque;
import java.util.ArrayList;
import java.util.HashSet;
import java.util.List;
import java.util.NoSuchElementException;
import java.util.Set;
import java.util.TreeMap;

/** The document told another way: a save copies every cell, and a clock tells what was made behind what. */
final class SnapshotModel {
    private static final class Thing {
        final boolean global;
        final int time;
        int[] cells = new int[8];
        final int[] bytes = new int[8];

        Thing(boolean global, int time) {
            this.global = global;
            this.time = time;
        }
    }

    private static final class Pushed {
        final int time;
        final int[] values;

        Pushed(int time, int[] values) {
            this.time = time;
            this.values = values;
        }
    }

    private static final class Snapshot {
        final int time;
        final TreeMap<Integer, int[]> cells = new TreeMap<>();
        final int[] parameters;
        final Set<Integer> rows = new HashSet<>();

        Snapshot(int time, int[] parameters) {
            this.time = time;
            this.parameters = parameters;
        }
    }

    private final TreeMap<Integer, Thing> things = new TreeMap<>();
    private final TreeMap<Integer, Snapshot> living = new TreeMap<>();
    private final ArrayDeque<Pushed> pushed = new ArrayDeque<>();
    private final List<Integer> depths = new ArrayList<>(List.of(0));
    private int[] parameters = new int[10];
    private int clock = 0;
    private int nextThing = 0;
    private int lastSave = 0;

    private Thing thing(int number) {
        Thing found = things.get(number);
        if (found == null) {
            throw new NoSuchElementException();
        }
        return found;
    }

    private static void within(int number, int least, int greatest) {
        if (number < least || number > greatest) {
            throw new IndexOutOfBoundsException();
        }
    }

    private int latestTime() {
        return living.isEmpty() ? -1 : living.lastEntry().getValue().time;
    }

    int object(boolean global) {
        if (things.size() == 200) {
            throw new UnsupportedOperationException();
        }
        things.put(nextThing, new Thing(global, clock++));
        return nextThing++;
    }

    int put(int object, int i, int v) {
        Thing target = thing(object);
        Thing referred = v < 0 ? thing(-1 - v) : null;
        within(i, 0, 7);
        if (target.global && referred != null && !referred.global) {
            throw new IllegalStateException();
        }
        if (!target.global && !living.isEmpty() && target.time < latestTime()) {
            living.lastEntry().getValue().rows.add(object * 8 + i);
        }
        int before = target.cells[i];
        target.cells[i] = v;
        return before;
    }

    int get(int object, int i) {
        Thing target = thing(object);
        within(i, 0, 7);
        return target.cells[i];
    }

    int save() {
        if (living.size() == 16) {
            throw new UnsupportedOperationException();
        }
        Snapshot snapshot = new Snapshot(clock++, parameters.clone());
        things.forEach((number, each) -> snapshot.cells.put(number, each.cells.clone()));
        living.put(++lastSave, snapshot);
        depths.add(living.size());
        return lastSave;
    }

    int restore(int save) {
        if (save <= 0 || save > lastSave) {
            return -1;
        }
        Snapshot snapshot = living.get(save);
        if (snapshot == null) {
            return -2;
        }
        if (living.lastKey() > save) {
            return -3;
        }
        for (int what = 8; what <= 9; what++) {
            if (parameters[what] < 0) {
                Thing referred = thing(-1 - parameters[what]);
                if (!referred.global && referred.time > snapshot.time) {
                    return -4;
                }
            }
        }
        things.values().removeIf(each -> !each.global && each.time > snapshot.time);
        things.forEach((number, each) -> {
            if (!each.global) {
                each.cells = snapshot.cells.get(number).clone();
            }
        });
        pushed.removeIf(each -> each.time > snapshot.time);
        int[] back = snapshot.parameters.clone();
        back[8] = parameters[8];
        back[9] = parameters[9];
        parameters = back;
        living.remove(save);
        return 1;
    }

    int state(int what, int v) {
        if (v < 0) {
            thing(-1 - v);
        }
        within(what, 0, 9);
        int before = parameters[what];
        parameters[what] = v;
        return before;
    }

    int stateOf(int what) {
        within(what, 0, 9);
        return parameters[what];
    }

    private int pushedBehind() {
        return (int) pushed.stream().filter(each -> each.time > latestTime()).count();
    }

    int push() {
        if (pushed.size() == 30) {
            throw new UnsupportedOperationException();
        }
        pushed.push(new Pushed(clock++, parameters.clone()));
        return pushedBehind();
    }

    int pop() {
        if (pushedBehind() == 0) {
            return -1;
        }
        int[] back = pushed.pop().values.clone();
        back[8] = parameters[8];
        back[9] = parameters[9];
        parameters = back;
        return pushedBehind();
    }

    int bytes(int object, int i, int c) {
        Thing target = thing(object);
        within(i, 0, 7);
        within(c, -1, 255);
        int before = target.bytes[i];
        target.bytes[i] = c == -1 ? before : c;
        return before;
    }

    int used() {
        int rows = living.values().stream().mapToInt(each -> each.rows.size()).sum();
        return 12 * things.size() + 3 * rows + 6 * living.size() + 10 * pushed.size();
    }

    int old(int object) {
        Thing target = thing(object);
        return (int) living.values().stream().filter(each -> each.time < target.time).count();
    }

    int deepest() {
        return depths.stream().mapToInt(Integer::intValue).max().getAsInt();
    }

    int objectsMade() {
        return nextThing;
    }

    int savesMade() {
        return lastSave;
    }

    int latestLiving() {
        return living.isEmpty() ? 0 : living.lastKey();
    }
}
