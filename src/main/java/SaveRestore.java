import java.util.Arrays;
import java.util.NoSuchElementException;

/** The memory and the state of a page machine, with saves whose restore undoes what was changed since. */
public final class SaveRestore {
    private static final int MOST_OBJECTS = 200;
    private static final int MOST_LIVING_SAVES = 16;
    private static final int MOST_PUSHED = 30;

    private static final int CELLS = 8;
    private static final int BYTES = 8;
    private static final int GREATEST_BYTE = 255;
    private static final int BYTE_STAYS = -1;
    private static final int PARAMETERS = 10;
    /** The parameters from this one on are kept: neither saved nor pushed. */
    private static final int FIRST_KEPT = 8;

    private static final int WORDS_OF_OBJECT = 12;
    private static final int WORDS_OF_ROW = 3;
    private static final int WORDS_OF_SAVE = 6;
    private static final int WORDS_OF_PUSHED = 10;

    private static final int RESTORED = 1;
    private static final int NEVER_MADE = -1;
    private static final int LIVES_NO_MORE = -2;
    private static final int LATER_ONE_LIVES = -3;
    private static final int KEPT_REFERS_TO_NEWER = -4;
    private static final int NOTHING_TO_POP = -1;

    /** A place is null while no object has it; places are used again, numbers are not. */
    private final PageObject[] objects;
    private final int[] parameters;
    private final int[][] pushed;
    private int objectsMade;
    private int pushedCount;
    private int savesMade;
    private int livingCount;
    private int mostLiving;
    /** The head of the chain of the saves that live; null when none does. */
    private Save latest;

    public SaveRestore() {
        objects = new PageObject[MOST_OBJECTS];
        parameters = new int[PARAMETERS];
        pushed = new int[MOST_PUSHED][FIRST_KEPT];
        objectsMade = 0;
        pushedCount = 0;
        savesMade = 0;
        livingCount = 0;
        mostLiving = 0;
        latest = null;
    }

    public int object(boolean global) throws UnsupportedOperationException {
        int place = freePlace();
        if (place < 0) {
            throw new UnsupportedOperationException("there are 200 objects");
        }
        int number = objectsMade;
        objects[place] = new PageObject(number, global);
        objectsMade++;
        return number;
    }

    public int put(int object, int i, int v)
            throws NoSuchElementException, IndexOutOfBoundsException, IllegalStateException {
        PageObject target = existing(object);
        checkReference(v);
        checkWithin(i, 0, CELLS - 1);
        PageObject referred = referredBy(v);
        if (target.global && referred != null && !referred.global) {
            throw new IllegalStateException("a global object's cell would refer to a local object");
        }
        keepRow(target, i);
        int before = target.cells[i];
        target.cells[i] = v;
        return before;
    }

    public int get(int object, int i) throws NoSuchElementException, IndexOutOfBoundsException {
        PageObject target = existing(object);
        checkWithin(i, 0, CELLS - 1);
        return target.cells[i];
    }

    public int save() throws UnsupportedOperationException {
        if (livingCount >= MOST_LIVING_SAVES) {
            throw new UnsupportedOperationException("16 saves live");
        }
        savesMade++;
        livingCount++;
        mostLiving = Math.max(mostLiving, livingCount);
        latest = new Save(savesMade, objectsMade, pushedCount, Arrays.copyOf(parameters, FIRST_KEPT), latest);
        return savesMade;
    }

    public int restore(int save) {
        if (save < 1 || save > savesMade) {
            return NEVER_MADE;
        }
        if (!lives(save)) {
            return LIVES_NO_MORE;
        }
        if (latest == null || latest.number != save) {
            return LATER_ONE_LIVES;
        }
        if (keptRefersToNewer(latest)) {
            return KEPT_REFERS_TO_NEWER;
        }
        goBackTo(latest);
        latest = latest.earlier;
        livingCount--;
        return RESTORED;
    }

    public int state(int what, int v) throws NoSuchElementException, IndexOutOfBoundsException {
        checkReference(v);
        checkWithin(what, 0, PARAMETERS - 1);
        int before = parameters[what];
        parameters[what] = v;
        return before;
    }

    public int stateOf(int what) throws IndexOutOfBoundsException {
        checkWithin(what, 0, PARAMETERS - 1);
        return parameters[what];
    }

    public int push() throws UnsupportedOperationException {
        if (pushedCount >= MOST_PUSHED) {
            throw new UnsupportedOperationException("30 states are pushed");
        }
        System.arraycopy(parameters, 0, pushed[pushedCount], 0, FIRST_KEPT);
        pushedCount++;
        return pushedBehindLatest();
    }

    public int pop() {
        if (pushedBehindLatest() <= 0) {
            return NOTHING_TO_POP;
        }
        pushedCount--;
        System.arraycopy(pushed[pushedCount], 0, parameters, 0, FIRST_KEPT);
        return pushedBehindLatest();
    }

    public int bytes(int object, int i, int c) throws NoSuchElementException, IndexOutOfBoundsException {
        PageObject target = existing(object);
        checkWithin(i, 0, BYTES - 1);
        checkWithin(c, BYTE_STAYS, GREATEST_BYTE);
        int before = target.bytes[i];
        if (c != BYTE_STAYS) {
            target.bytes[i] = c;
        }
        return before;
    }

    public int used() {
        return WORDS_OF_OBJECT * objectCount()
            + WORDS_OF_ROW * rowCount()
            + WORDS_OF_SAVE * livingCount
            + WORDS_OF_PUSHED * pushedCount;
    }

    public int old(int object) throws NoSuchElementException {
        PageObject target = existing(object);
        int count = 0;
        for (Save each = latest; each != null; each = each.earlier) {
            if (target.isNewerThan(each)) {
                count++;
            }
        }
        return count;
    }

    public int deepest() {
        return mostLiving;
    }

    private static void checkWithin(int number, int least, int greatest) {
        if (number < least || number > greatest) {
            throw new IndexOutOfBoundsException("a number is not within its bounds");
        }
    }

    private int freePlace() {
        for (int place = 0; place < MOST_OBJECTS; place++) {
            if (objects[place] == null) {
                return place;
            }
        }
        return -1;
    }

    /** Null when there is no such object. */
    private PageObject find(int number) {
        for (PageObject each : objects) {
            if (each != null && each.number == number) {
                return each;
            }
        }
        return null;
    }

    private PageObject existing(int number) {
        PageObject found = find(number);
        if (found == null) {
            throw new NoSuchElementException("there is no such object");
        }
        return found;
    }

    /** Null when the value is a number, or refers to no object that there is. */
    private PageObject referredBy(int value) {
        return value >= 0 ? null : find(-1 - value);
    }

    private void checkReference(int value) {
        if (value < 0 && referredBy(value) == null) {
            throw new NoSuchElementException("there is no object that the value refers to");
        }
    }

    private int objectCount() {
        int count = 0;
        for (PageObject each : objects) {
            if (each != null) {
                count++;
            }
        }
        return count;
    }

    private int rowCount() {
        int count = 0;
        for (Save each = latest; each != null; each = each.earlier) {
            count += each.rowCount;
        }
        return count;
    }

    private int pushedBehindLatest() {
        return latest == null ? pushedCount : pushedCount - latest.pushedBefore;
    }

    private void keepRow(PageObject target, int cell) {
        if (latest == null || target.global || target.isNewerThan(latest) || latest.hasRow(target, cell)) {
            return;
        }
        latest.addRow(target, cell);
    }

    private boolean lives(int number) {
        for (Save each = latest; each != null; each = each.earlier) {
            if (each.number == number) {
                return true;
            }
        }
        return false;
    }

    private boolean keptRefersToNewer(Save save) {
        for (int what = FIRST_KEPT; what < PARAMETERS; what++) {
            PageObject referred = referredBy(parameters[what]);
            if (referred != null && referred.goesWith(save)) {
                return true;
            }
        }
        return false;
    }

    private void goBackTo(Save save) {
        save.undoRows();
        for (int place = 0; place < MOST_OBJECTS; place++) {
            PageObject each = objects[place];
            if (each != null && each.goesWith(save)) {
                objects[place] = null;
            }
        }
        pushedCount = save.pushedBefore;
        System.arraycopy(save.parametersThen, 0, parameters, 0, FIRST_KEPT);
    }

    private static final class PageObject {
        private final int number;
        private final boolean global;
        private final int[] cells;
        private final int[] bytes;

        private PageObject(int number, boolean global) {
            this.number = number;
            this.global = global;
            this.cells = new int[CELLS];
            this.bytes = new int[BYTES];
        }

        /** Numbers grow as objects are made, so they tell what was made behind what. */
        private boolean isNewerThan(Save save) {
            return number >= save.objectsBefore;
        }

        private boolean goesWith(Save save) {
            return !global && isNewerThan(save);
        }
    }

    /** What a cell held before it was first put behind a save. */
    private static final class Row {
        private final PageObject target;
        private final int cell;
        private final int before;
        private final Row next;

        private Row(PageObject target, int cell, int before, Row next) {
            this.target = target;
            this.cell = cell;
            this.before = before;
            this.next = next;
        }
    }

    /** A save that lives. Only the latest gets rows: once it is restored, nothing has changed for the earlier ones. */
    private static final class Save {
        private final int number;
        private final int objectsBefore;
        private final int pushedBefore;
        private final int[] parametersThen;
        private final Save earlier;
        private Row rows;
        private int rowCount;

        private Save(int number, int objectsBefore, int pushedBefore, int[] parametersThen, Save earlier) {
            this.number = number;
            this.objectsBefore = objectsBefore;
            this.pushedBefore = pushedBefore;
            this.parametersThen = parametersThen;
            this.earlier = earlier;
            this.rows = null;
            this.rowCount = 0;
        }

        private boolean hasRow(PageObject target, int cell) {
            for (Row each = rows; each != null; each = each.next) {
                if (each.target == target && each.cell == cell) {
                    return true;
                }
            }
            return false;
        }

        private void addRow(PageObject target, int cell) {
            rows = new Row(target, cell, target.cells[cell], rows);
            rowCount++;
        }

        private void undoRows() {
            for (Row each = rows; each != null; each = each.next) {
                each.target.cells[each.cell] = each.before;
            }
        }
    }
}
