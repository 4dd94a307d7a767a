import java.util.ArrayList;
import java.util.HashMap;
import java.util.HashSet;
import java.util.List;
import java.util.Map;
import java.util.Set;

/**
 * The document's words once more, held another way than in HouseWorkers: versions that are not kept
 * are taken out after every call, and who must wait is looked up by a plain search.
 */
final class Model {
    private static final class Work {
        int kind;
        int steps;
        int failsAt;
        int first;
        int by;
        int did;
        int how;
        int answer;
        int version = -1;
        boolean told;
        Integer pin;
        int[] own = new int[16];
    }

    private final Map<Integer, int[]> kept = new HashMap<>();
    private final List<Work> works = new ArrayList<>();
    private final List<int[]> ends = new ArrayList<>();
    private int latest = 0;
    private boolean open = true;
    private int acted = 0;
    private int waited = 0;

    Model() {
        kept.put(0, new int[16]);
    }

    int put(int cell, int v) {
        if (cell < 0 || cell > 15) {
            return -1;
        }
        if (!works.isEmpty()) {
            return -2;
        }
        kept.get(0)[cell] = v;
        return 1;
    }

    int begin(int kind, int steps, int failsAt, int first, int by) {
        if (steps < 1 || steps > 20 || failsAt < 0 || failsAt > 30 || first < 0 || first > 15) {
            return -1;
        }
        if (!open) {
            return -2;
        }
        if (works.size() == 30) {
            return -3;
        }
        Work w = new Work();
        w.kind = kind;
        w.steps = steps;
        w.failsAt = failsAt;
        w.first = first;
        w.by = by;
        if (kind == 0) {
            w.pin = latest;
        }
        if (kind == 0 || kind == 3) {
            w.version = latest;
        }
        works.add(w);
        return works.size() - 1;
    }

    int turn(int work) {
        if (!isWork(work)) {
            return -1;
        }
        Work w = works.get(work);
        if (w.how != 0) {
            return 0;
        }
        if (waits(work)) {
            waited++;
            return 0;
        }
        acted++;
        int outcome = outcome(w);
        if (outcome > 1) {
            end(work, outcome);
        }
        sweep();
        return outcome;
    }

    private int outcome(Work w) {
        if (w.told) {
            return 4;
        }
        boolean commitsNow = (w.kind == 1 || w.kind == 2) && w.did == w.steps;
        if (commitsNow) {
            int[] row = w.own.clone();
            for (int c = 0; c < 16 && w.kind == 1; c++) {
                row[c] += kept.get(latest)[c];
            }
            kept.put(++latest, row);
            w.version = latest;
            return 2;
        }
        if (w.failsAt == w.did + 1) {
            return 3;
        }
        step(w);
        w.did++;
        return w.kind == 0 && w.did == w.steps ? 2 : 1;
    }

    private void step(Work w) {
        int place = (w.first + w.did) % 16;
        switch (w.kind) {
            case 0 -> w.answer = 31 * w.answer + kept.get(w.version)[place];
            case 1 -> w.own[place] += w.by;
            case 2 -> {
                int[] from = w.own;
                if (w.did == 0) {
                    w.pin = latest;
                    from = kept.get(latest);
                }
                int[] to = new int[16];
                for (int c = 0; c < 16; c++) {
                    to[c] = Math.max(from[c], from[(c + 15) % 16]);
                }
                w.own = to;
            }
            default -> {
                w.version++;
                int sum = 0;
                for (int v : kept.get(w.version)) {
                    sum += v;
                }
                w.answer = 31 * w.answer + sum;
            }
        }
    }

    private boolean waits(int work) {
        Work w = works.get(work);
        if (w.told) {
            return false;
        }
        boolean lesserGoOn = false;
        for (int other = 0; other < work; other++) {
            Work o = works.get(other);
            lesserGoOn |= o.how == 0 && (o.kind == 1 || o.kind == 2);
        }
        return switch (w.kind) {
            case 1 -> w.did == w.steps && lesserGoOn;
            case 2 -> w.did == 0 && lesserGoOn;
            case 3 -> w.version == latest;
            default -> false;
        };
    }

    private void end(int work, int how) {
        works.get(work).how = how;
        works.get(work).pin = null;
        ends.add(new int[] {work, how, acted});
    }

    private void sweep() {
        int least = latest;
        for (Work w : works) {
            if (w.how == 0 && w.kind == 3) {
                least = Math.min(least, w.version + 1);
            }
        }
        int notGotYet = least;
        Set<Integer> pins = pins();
        kept.keySet().removeIf(v -> v != latest && v < notGotYet && !pins.contains(v));
    }

    private Set<Integer> pins() {
        Set<Integer> pins = new HashSet<>();
        for (Work w : works) {
            if (w.pin != null) {
                pins.add(w.pin);
            }
        }
        return pins;
    }

    int run(int most) {
        if (most < 0 || most > 1000) {
            return -1;
        }
        int did = 0;
        boolean some = true;
        while (some) {
            some = false;
            for (int work = 0; work < works.size(); work++) {
                if (did == most) {
                    return did;
                }
                if (turn(work) > 0) {
                    did++;
                    some = true;
                }
            }
        }
        return did;
    }

    int cancel(int work) {
        if (!isWork(work)) {
            return -1;
        }
        Work w = works.get(work);
        if (w.how != 0 || w.told) {
            return 0;
        }
        w.told = true;
        return 1;
    }

    int close() {
        if (!open) {
            return -2;
        }
        open = false;
        int before = ends.size();
        for (int work = 0; work < works.size(); work++) {
            if (works.get(work).how == 0) {
                end(work, 4);
            }
        }
        sweep();
        return ends.size() - before;
    }

    int told(int work, int what) {
        if (!isWork(work)) {
            return -1;
        }
        Work w = works.get(work);
        return switch (what) {
            case 0 -> w.kind;
            case 1 -> w.how;
            case 2 -> w.did;
            case 3 -> w.answer;
            case 4 -> w.version;
            case 5 -> w.how != 0 || waits(work) ? 1 : 0;
            default -> -1;
        };
    }

    int ended(int i, int what) {
        if (what < 0 || what > 2) {
            return -1;
        }
        return i < 0 || i >= ends.size() ? -2 : ends.get(i)[what];
    }

    int cell(int version, int cell) {
        if (cell < 0 || cell > 15 || version < 0 || version > latest) {
            return -1;
        }
        return kept.containsKey(version) ? kept.get(version)[cell] : -2;
    }

    int count(int what) {
        return switch (what) {
            case 0 -> latest + 1;
            case 1 -> kept.size();
            case 2 -> pins().size();
            case 3 -> acted;
            case 4 -> waited;
            case 5 -> works.size() - ends.size();
            default -> -1;
        };
    }

    private boolean isWork(int work) {
        return work >= 0 && work < works.size();
    }
}
