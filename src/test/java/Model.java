import java.util.ArrayList;
import java.util.List;

/**
 * The document told a second time, in another way than the class tells it: each state is a
 * new value, and each question copies the ledger and walks it again. Holds no range checks;
 * ModelTest tells beforehand which exception is due.
 */
final class Model {
    record Entry(int kind, int first, int second, boolean struck) {
        Entry flipped() {
            return new Entry(kind, first, second, !struck);
        }
    }

    record Show(int coins, int plasters, int stage, List<Integer> trusts) {
        static Show first() {
            return new Show(10, 0, 0, List.of());
        }

        Show withTrust(int partner, int more) {
            List<Integer> changed = new ArrayList<>(trusts);
            int trust = changed.get(partner) + more;
            changed.set(partner, trust < 0 ? 0 : trust > 100 ? 100 : trust);
            return new Show(coins, plasters, stage, List.copyOf(changed));
        }

        Show withCoins(int more) {
            return new Show(coins + more, plasters, stage, trusts);
        }

        Show withPlasters(int more) {
            return new Show(coins, plasters + more, stage, trusts);
        }
    }

    final int[][] stages = new int[4][2];
    final List<Entry> entries = new ArrayList<>();

    /** The show behind this entry; null, if what it asks does not hold. */
    Show after(Show show, Entry entry) {
        int partner = entry.first();
        boolean joined = partner < show.trusts().size();
        return switch (entry.kind()) {
            case 0 -> afterJoin(show, entry.first());
            case 1 -> joined ? afterToss(show, partner, entry.second()) : null;
            case 2 -> joined ? show.withTrust(partner, 6) : null;
            case 3 -> new Show(show.coins(), show.plasters(), entry.first(), show.trusts());
            case 4 -> joined && show.coins() >= entry.second()
                    ? show.withCoins(-entry.second()).withTrust(partner, entry.second() / 3) : null;
            default -> show.coins() >= 2 * entry.first()
                    ? show.withCoins(-2 * entry.first()).withPlasters(entry.first()) : null;
        };
    }

    private Show afterJoin(Show show, int trust) {
        if (show.trusts().size() == 6) {
            return null;
        }
        List<Integer> more = new ArrayList<>(show.trusts());
        more.add(trust);
        return new Show(show.coins(), show.plasters(), show.stage(), List.copyOf(more));
    }

    private Show afterToss(Show show, int partner, int thumbs) {
        int light = stages[show.stage()][0];
        int tremble = stages[show.stage()][1];
        if (show.trusts().get(partner) - tremble < 20) {
            return null;
        }
        if (thumbs == 0 && show.plasters() > 0) {
            return show.withPlasters(-1).withTrust(partner, -30);
        }
        if (thumbs == 0) {
            return show.withTrust(partner, -60);
        }
        if (thumbs < 4) {
            return show.withCoins(12 + light).withTrust(partner, -4);
        }
        if (thumbs < 10) {
            return show.withCoins(5 + light / 2).withTrust(partner, 1);
        }
        return show.withCoins(1).withTrust(partner, 3);
    }

    /** The shows behind 0, 1, 2 .. of these entries. */
    List<Show> shows(List<Entry> told) {
        List<Show> shows = new ArrayList<>();
        shows.add(Show.first());
        for (Entry entry : told) {
            Show before = shows.get(shows.size() - 1);
            Show after = entry.struck() ? null : after(before, entry);
            shows.add(after == null ? before : after);
        }
        return shows;
    }

    Show show(int number) {
        return shows(entries).get(number);
    }

    Show last() {
        return show(entries.size());
    }

    boolean counts(int number) {
        Entry entry = entries.get(number);
        return !entry.struck() && after(show(number), entry) != null;
    }

    boolean idle(int number) {
        return !entries.get(number).struck() && !counts(number);
    }

    int coinsFlipped(int number) {
        List<Entry> told = new ArrayList<>(entries);
        told.set(number, told.get(number).flipped());
        return shows(told).get(told.size()).coins();
    }

    int add(int kind, int first, int second) {
        entries.add(new Entry(kind, first, second, false));
        return entries.size() - 1;
    }

    int set(int stage, int light, int tremble) {
        int before = 10 * stages[stage][0] + stages[stage][1];
        stages[stage] = new int[] {light, tremble};
        return before;
    }

    int strike(int number) {
        entries.set(number, entries.get(number).flipped());
        return entries.get(number).struck() ? 1 : 0;
    }

    int shift(int number, int place) {
        Entry moved = entries.remove(number);
        entries.add(place, moved);
        return moved.kind();
    }

    int tear() {
        return entries.remove(entries.size() - 1).kind();
    }

    int entry(int number, int what) {
        Entry entry = entries.get(number);
        int[] told = {entry.kind(), entry.first(), entry.second(), entry.struck() ? 1 : 0,
            counts(number) ? 1 : 0};
        return told[what];
    }

    int behind(int number, int what) {
        Show show = show(number);
        int counting = 0;
        int idle = 0;
        for (int i = 0; i < number; i++) {
            counting += counts(i) ? 1 : 0;
            idle += idle(i) ? 1 : 0;
        }
        int trust = show.trusts().stream().mapToInt(Integer::intValue).sum();
        int[] told = {show.coins(), show.plasters(), show.stage(), show.trusts().size(), trust,
            counting, idle};
        return told[what];
    }

    int trust(int partner, int number) {
        List<Integer> trusts = show(number).trusts();
        return partner < trusts.size() ? trusts.get(partner) : -1;
    }

    int count(int what) {
        int size = entries.size();
        int struck = 0;
        int firstIdle = -1;
        for (int i = size - 1; i >= 0; i--) {
            struck += entries.get(i).struck() ? 1 : 0;
            firstIdle = idle(i) ? i : firstIdle;
        }
        int fewest = shows(entries).stream().mapToInt(Show::coins).min().getAsInt();
        int[] told = {size, struck, behind(size, 5), last().coins(), firstIdle, fewest};
        return told[what];
    }

    int worth(int number) {
        return last().coins() - coinsFlipped(number);
    }

    int best() {
        int best = -1;
        for (int i = entries.size() - 1; i >= 0; i--) {
            boolean better = best < 0 || coinsFlipped(i) >= coinsFlipped(best);
            if (!entries.get(i).struck() && coinsFlipped(i) > last().coins() && better) {
                best = i;
            }
        }
        return best;
    }

    int would(int partner, int thumbs) {
        Show now = last();
        Show then = after(now, new Entry(1, partner, thumbs, false));
        return then == null ? -1 : then.coins() - now.coins();
    }

    double mean() {
        return last().trusts().stream().mapToInt(Integer::intValue).average().orElse(0);
    }

    long digest() {
        List<Integer> told = new ArrayList<>();
        for (int what = 0; what < 6; what++) {
            told.add(count(what));
        }
        for (int[] stage : stages) {
            told.add(stage[0]);
            told.add(stage[1]);
        }
        for (int i = 0; i < entries.size(); i++) {
            for (int what = 0; what < 5; what++) {
                told.add(entry(i, what));
            }
            told.add(show(i + 1).coins());
        }
        for (int partner = 0; partner < 6; partner++) {
            told.add(trust(partner, entries.size()));
        }
        long d = 1229;
        for (int number : told) {
            d = d * 31 + number;
        }
        return d;
    }
}
