import java.util.ArrayList;
import java.util.Arrays;

/**
 * Generations of a data set: a group whose members are called by numbers counted from the newest
 * one, as it was when a job began; new ones that a job makes come into the group when its step
 * ends well.
 */
public final class Generations {
    public static final int NONE = -1;

    private static final int LAST_NUMBER = 9999;
    private static final int FARTHEST_AHEAD = 4999;
    private static final int MOST_PLUS = 99;
    private static final int MOST_LIMIT = 255;
    private static final int MOST_JOBS = 40;
    private static final int MOST_CALLS = 512;

    /** Stands for the maker of a data set from elsewhere, and for "no job makes". */
    private static final int NO_JOB = 0;

    // The states of a number, with the values that state() answers.
    private static final int NOT_THERE = 0;
    private static final int CATALOGUED = 1;
    private static final int WAITING = 2;
    private static final int FAILED = 3;
    private static final int LOOSE = 4;

    private final int limit;
    private final boolean scratches;
    private boolean emptyRule;

    private final Row row = new Row();
    private final ArrayList<Job> jobs = new ArrayList<>();

    /** One for each number ever used; it stays when its generation goes, to be used again. */
    private final ArrayList<Generation> known = new ArrayList<>();

    /** Answers for every number that is not known, so that no search ends with null. */
    private final Generation nowhere = new Generation(0);

    /** A call brings at most one number into the row, so no more than the calls can go from it. */
    private final int[] gone = new int[MOST_CALLS];
    private int goneCount;

    public Generations(int limit, int scratch) {
        this.limit = Math.max(1, Math.min(limit, MOST_LIMIT));
        this.scratches = scratch != 0;
    }

    public int catalogue(int number) {
        if (!isNumber(number)) {
            return NONE;
        }
        Generation generation = find(number);
        if (generation.state == CATALOGUED || generation.isDeferred()) {
            return NONE;
        }
        if (generation.state == NOT_THERE) {
            generation = placeFor(number);
            generation.beginAnew(NO_JOB);
        }
        bringIntoRow(generation);
        return row.size;
    }

    public int job() {
        if (jobs.size() >= MOST_JOBS) {
            return NONE;
        }
        jobs.add(new Job(row.copy()));
        return jobs.size();
    }

    public int relative(int job, int n) throws IllegalArgumentException {
        Job asking = jobCalled(job);
        if (n > MOST_PLUS) {
            throw new IllegalArgumentException("n is above 99");
        }
        if (n > 0) {
            int number = asking.plus(n);
            return find(number).isNewOneOf(job) ? number : NONE;
        }
        int number = asking.countedFromNewest(n);
        return find(number).state == CATALOGUED ? number : NONE;
    }

    public int make(int job, int n) throws IllegalArgumentException {
        Job making = jobCalled(job);
        if (n < 1 || n > MOST_PLUS) {
            throw new IllegalArgumentException("n is not 1 .. 99");
        }
        int number = making.plus(n);
        Generation there = find(number);
        if (there.isNewOneOf(job)) {
            return number;
        }
        if (there.isInTheWayOf(job) || anotherMakes(job)) {
            return NONE;
        }
        Generation made = placeFor(number);
        made.beginAnew(job);
        made.state = WAITING;
        return number;
    }

    public int end(int job, int absolute, boolean fails) throws IllegalArgumentException {
        Job ending = jobCalled(job);
        Generation generation = find(absolute);
        if (generation.state != WAITING || generation.maker != job) {
            return NONE;
        }
        ending.ends++;
        if (fails) {
            generation.state = FAILED;
            generation.failedAtEnd = ending.ends;
            return 0;
        }
        bringIntoRow(generation);
        return 1;
    }

    public int dropped(int i) {
        return i >= 0 && i < goneCount ? gone[i] : NONE;
    }

    public int restart(int job, int step) throws IllegalArgumentException {
        Job going = jobCalled(job);
        if (anotherMakes(job) || step < 1 || step > going.ends + 1) {
            return NONE;
        }
        int waitAgain = 0;
        for (int i = 0; i < known.size(); i++) {
            Generation generation = known.get(i);
            if (generation.failedFor(job, step)) {
                generation.state = WAITING;
                waitAgain++;
            }
        }
        return waitAgain;
    }

    public int list(int i) {
        return row.at(i);
    }

    public int reclaim(int absolute) {
        Generation generation = find(absolute);
        if (generation.state != FAILED && generation.state != LOOSE) {
            return 0;
        }
        generation.version++;
        bringIntoRow(generation);
        return 1;
    }

    public int empty(boolean on) {
        int before = emptyRule ? 1 : 0;
        emptyRule = on;
        return before;
    }

    public int version(int absolute) {
        Generation generation = find(absolute);
        return generation.state == NOT_THERE ? NONE : generation.version;
    }

    public int state(int absolute) {
        return isNumber(absolute) ? find(absolute).state : NONE;
    }

    public int count(int what) {
        switch (what) {
            case 0:
                return row.size;
            case 1:
                return howManyAre(WAITING) + howManyAre(FAILED);
            case 2:
                return howManyAre(LOOSE);
            case 3:
                return jobs.size();
            case 4:
                return jobThatMakes();
            case 5:
                return goneCount;
            default:
                return NONE;
        }
    }

    private static boolean isNumber(int number) {
        return number >= 1 && number <= LAST_NUMBER;
    }

    private Job jobCalled(int job) {
        if (job < 1 || job > jobs.size()) {
            throw new IllegalArgumentException("there is no such job");
        }
        return jobs.get(job - 1);
    }

    private Generation find(int number) {
        for (int i = 0; i < known.size(); i++) {
            Generation generation = known.get(i);
            if (generation.number == number) {
                return generation;
            }
        }
        return nowhere;
    }

    private Generation placeFor(int number) {
        Generation generation = find(number);
        if (generation.number != number) {
            generation = new Generation(number);
            known.add(generation);
        }
        return generation;
    }

    private int howManyAre(int state) {
        int many = 0;
        for (int i = 0; i < known.size(); i++) {
            if (known.get(i).state == state) {
                many++;
            }
        }
        return many;
    }

    /** All that wait are of one job, because no other can make, or restart, as long as they do. */
    private int jobThatMakes() {
        for (int i = 0; i < known.size(); i++) {
            Generation generation = known.get(i);
            if (generation.state == WAITING) {
                return generation.maker;
            }
        }
        return NO_JOB;
    }

    private boolean anotherMakes(int job) {
        int making = jobThatMakes();
        return making != NO_JOB && making != job;
    }

    private void bringIntoRow(Generation generation) {
        generation.state = CATALOGUED;
        row.put(generation.number);
        holdToLimit();
    }

    private void holdToLimit() {
        if (row.size <= limit) {
            return;
        }
        int going = emptyRule ? row.size - 1 : row.size - limit;
        for (int i = 0; i < going; i++) {
            letGo(row.at(i));
        }
        row.removeOldest(going);
    }

    private void letGo(int number) {
        Generation generation = find(number);
        generation.state = scratches ? NOT_THERE : LOOSE;
        // Full only after more calls than an object is used for.
        if (goneCount < gone.length) {
            gone[goneCount] = number;
            goneCount++;
        }
    }

    /** What is known of a number: the generation that has it now, if one is there. */
    private static final class Generation {
        private final int number;
        private int state = NOT_THERE;
        private int version;
        private int maker = NO_JOB;
        private int failedAtEnd;

        private Generation(int number) {
            this.number = number;
        }

        /** Nothing of an earlier generation with this number may be seen in the new one. */
        private void beginAnew(int newMaker) {
            maker = newMaker;
            version = 0;
            failedAtEnd = 0;
        }

        private boolean isDeferred() {
            return state == WAITING || state == FAILED;
        }

        private boolean isNewOneOf(int job) {
            return maker == job && (state == CATALOGUED || isDeferred());
        }

        /** A job's own loose one is not in its way: only those of others, or from elsewhere, are. */
        private boolean isInTheWayOf(int job) {
            return state == CATALOGUED || isDeferred() || state == LOOSE && maker != job;
        }

        private boolean failedFor(int job, int step) {
            return state == FAILED && maker == job && failedAtEnd >= step;
        }
    }

    /** A job, with the row as it was when it began. */
    private static final class Job {
        private final int[] rowThen;
        private int ends;

        private Job(int[] rowThen) {
            this.rowThen = rowThen;
        }

        private int base() {
            return rowThen.length > 0 ? rowThen[rowThen.length - 1] : 0;
        }

        private int plus(int n) {
            return Math.floorMod(base() + n - 1, LAST_NUMBER) + 1;
        }

        /** Takes n of 0, -1, ..: it is looked at before the sum, which could wrap around else. */
        private int countedFromNewest(int n) {
            int oldest = 1 - rowThen.length;
            return n >= oldest && n <= 0 ? rowThen[rowThen.length - 1 + n] : NONE;
        }
    }

    /** The catalogued numbers, the oldest first. */
    private static final class Row {
        /** One more than the limit: a number comes in before the oldest go. */
        private final int[] numbers = new int[MOST_LIMIT + 1];
        private int size;

        private int at(int i) {
            return i >= 0 && i < size ? numbers[i] : NONE;
        }

        private int[] copy() {
            return Arrays.copyOf(numbers, size);
        }

        private void put(int number) {
            if (size >= numbers.length) {
                return;
            }
            int place = size;
            while (place > 0 && !isAhead(numbers[place - 1], number)) {
                numbers[place] = numbers[place - 1];
                place--;
            }
            numbers[place] = number;
            size++;
        }

        private void removeOldest(int many) {
            int staying = size - many;
            if (many < 0 || staying < 0) {
                return;
            }
            System.arraycopy(numbers, many, numbers, 0, staying);
            size = staying;
        }

        private static boolean isAhead(int x, int y) {
            int behind = Math.floorMod(y - x, LAST_NUMBER);
            return behind >= 1 && behind <= FARTHEST_AHEAD;
        }
    }
}
