import java.util.ArrayList;
import java.util.HashMap;
import java.util.List;
import java.util.Map;

/**
 * A second way to answer the calls, written from the document apart from the class: data sets are
 * objects with a life of their own, jobs remember the very objects that they made, and every call
 * of end() is kept, so that nothing has to be told from a number's state.
 */
final class PlainModel {
    private static final int NONE = -1;

    private static final class DataSet {
        final int number;
        final Job madeBy;
        int version;
        boolean waits;

        DataSet(int number, Job madeBy) {
            this.number = number;
            this.madeBy = madeBy;
        }
    }

    private static final class Ending {
        final DataSet what;
        final boolean failed;

        Ending(DataSet what, boolean failed) {
            this.what = what;
            this.failed = failed;
        }
    }

    private static final class Job {
        final int number;
        final List<Integer> row = new ArrayList<>();
        final Map<Integer, DataSet> made = new HashMap<>();
        final List<Ending> endings = new ArrayList<>();

        Job(int number) {
            this.number = number;
        }
    }

    private final int limit;
    private final boolean scratches;
    private boolean empty;
    private final List<DataSet> row = new ArrayList<>();
    private final List<DataSet> deferred = new ArrayList<>();
    private final List<DataSet> loose = new ArrayList<>();
    private final List<Job> jobs = new ArrayList<>();
    private final List<Integer> gone = new ArrayList<>();

    PlainModel(int limit, int scratch) {
        this.limit = limit < 1 ? 1 : limit > 255 ? 255 : limit;
        this.scratches = scratch != 0;
    }

    int catalogue(int number) {
        if (number < 1 || number > 9999 || in(row, number) != null || in(deferred, number) != null) {
            return NONE;
        }
        DataSet dataSet = in(loose, number);
        enter(dataSet == null ? new DataSet(number, null) : dataSet);
        return row.size();
    }

    int job() {
        if (jobs.size() == 40) {
            return NONE;
        }
        Job job = new Job(jobs.size() + 1);
        for (DataSet dataSet : row) {
            job.row.add(dataSet.number);
        }
        jobs.add(job);
        return job.number;
    }

    int relative(int job, int n) {
        Job asking = find(job);
        if (n > 99) {
            throw new IllegalArgumentException();
        }
        if (n > 0) {
            DataSet made = asking.made.get(n);
            return row.contains(made) || deferred.contains(made) ? made.number : NONE;
        }
        long place = (long) asking.row.size() - 1 + n;
        if (place < 0) {
            return NONE;
        }
        int number = asking.row.get((int) place);
        return in(row, number) != null ? number : NONE;
    }

    int make(int job, int n) {
        Job making = find(job);
        if (n < 1 || n > 99) {
            throw new IllegalArgumentException();
        }
        DataSet before = making.made.get(n);
        if (row.contains(before) || deferred.contains(before)) {
            return before.number;
        }
        int number = making.row.isEmpty() ? 0 : making.row.get(making.row.size() - 1);
        for (int i = 0; i < n; i++) {
            number = number == 9999 ? 1 : number + 1;
        }
        DataSet other = in(loose, number);
        if (in(row, number) != null || in(deferred, number) != null
                || other != null && other.madeBy != making || anotherMakes(making)) {
            return NONE;
        }
        loose.remove(other);
        DataSet made = new DataSet(number, making);
        made.waits = true;
        deferred.add(made);
        making.made.put(n, made);
        return number;
    }

    int end(int job, int absolute, boolean fails) {
        Job ending = find(job);
        DataSet dataSet = in(deferred, absolute);
        if (dataSet == null || !dataSet.waits || dataSet.madeBy != ending) {
            return NONE;
        }
        ending.endings.add(new Ending(dataSet, fails));
        dataSet.waits = false;
        if (!fails) {
            enter(dataSet);
        }
        return fails ? 0 : 1;
    }

    int dropped(int i) {
        return i < 0 || i >= gone.size() ? NONE : gone.get(i);
    }

    int restart(int job, int step) {
        Job going = find(job);
        if (anotherMakes(going) || step < 1 || step - 1 > going.endings.size()) {
            return NONE;
        }
        int many = 0;
        for (Ending ending : going.endings.subList(step - 1, going.endings.size())) {
            if (ending.failed && deferred.contains(ending.what) && !ending.what.waits) {
                ending.what.waits = true;
                many++;
            }
        }
        return many;
    }

    int list(int i) {
        return i < 0 || i >= row.size() ? NONE : row.get(i).number;
    }

    int reclaim(int absolute) {
        DataSet dataSet = in(deferred, absolute);
        if (dataSet == null) {
            dataSet = in(loose, absolute);
        }
        if (dataSet == null || dataSet.waits) {
            return 0;
        }
        dataSet.version++;
        enter(dataSet);
        return 1;
    }

    int empty(boolean on) {
        boolean was = empty;
        empty = on;
        return was ? 1 : 0;
    }

    int version(int absolute) {
        for (List<DataSet> place : List.of(row, deferred, loose)) {
            DataSet dataSet = in(place, absolute);
            if (dataSet != null) {
                return dataSet.version;
            }
        }
        return NONE;
    }

    int state(int absolute) {
        if (absolute < 1 || absolute > 9999) {
            return NONE;
        }
        DataSet dataSet = in(deferred, absolute);
        if (dataSet != null) {
            return dataSet.waits ? 2 : 3;
        }
        return in(row, absolute) != null ? 1 : in(loose, absolute) != null ? 4 : 0;
    }

    int count(int what) {
        Job making = making();
        int[] counts = {row.size(), deferred.size(), loose.size(), jobs.size(),
            making == null ? 0 : making.number, gone.size()};
        return what < 0 || what >= counts.length ? NONE : counts[what];
    }

    private static DataSet in(List<DataSet> place, int number) {
        for (DataSet dataSet : place) {
            if (dataSet.number == number) {
                return dataSet;
            }
        }
        return null;
    }

    private Job find(int job) {
        for (Job one : jobs) {
            if (one.number == job) {
                return one;
            }
        }
        throw new IllegalArgumentException();
    }

    private Job making() {
        for (DataSet dataSet : deferred) {
            if (dataSet.waits) {
                return dataSet.madeBy;
            }
        }
        return null;
    }

    private boolean anotherMakes(Job job) {
        return making() != null && making() != job;
    }

    private void enter(DataSet dataSet) {
        deferred.remove(dataSet);
        loose.remove(dataSet);
        int place = 0;
        for (int i = 0; i < row.size(); i++) {
            int far = dataSet.number - row.get(i).number;
            if (far < 0) {
                far += 9999;
            }
            if (far >= 1 && far <= 4999) {
                place = i + 1;
            }
        }
        row.add(place, dataSet);
        int stay = row.size() <= limit ? row.size() : empty ? 1 : limit;
        while (row.size() > stay) {
            DataSet oldest = row.remove(0);
            gone.add(oldest.number);
            if (!scratches) {
                loose.add(oldest);
            }
        }
    }
}
