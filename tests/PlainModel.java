import java.util.ArrayList;
import java.util.Comparator;
import java.util.HashMap;
import java.util.List;
import java.util.Map;

/**
 * The document's words in their plainest form, for comparison: nothing is kept but what was told, and
 * every answer is worked out afresh. It takes any call as a name and numbers.
 */
final class PlainModel {
    private record Mass(int shape, int column, int row, int strength) {
    }

    private record Source(int column, int row, int light) {
    }

    private record Flare(int source, int day, int more) {
    }

    private record Star(int source, int rank, int day, int width, int height) {
    }

    private record Image(int column, int row, int bright, int way) {
    }

    private record Frame(int day, Map<String, Integer> lights) {
    }

    private record Booking(int growth, List<Mass> masses) {
    }

    private List<Mass> masses = new ArrayList<>();
    private final List<Source> sources = new ArrayList<>();
    private final List<Flare> flares = new ArrayList<>();
    private final List<Star> stars = new ArrayList<>();
    private final List<Frame> frames = new ArrayList<>();
    private final Map<Integer, Booking> bookings = new HashMap<>();
    private final boolean[] minds = new boolean[5];
    private boolean open = false;
    private int booked = 0;
    private int day = 0;
    private int from = 0;
    private int to = 99;
    private int clear = 0;
    private int growth = 70;

    long call(String name, int... a) {
        switch (name) {
            case "mass": return mass(a[0], a[1], a[2], a[3]);
            case "two": return two(a[0], a[1], a[2]);
            case "source": return source(a[0], a[1], a[2]);
            case "flare": return flare(a[0], a[1]);
            case "cross": return cross(a[0], a[1], a[2], a[3]);
            case "season": return season(a[0], a[1]);
            case "cloud": return cloud(a[0]);
            case "world": return world(a[0]);
            case "frame": return frame();
            case "pass": return pass(a[0]);
            case "book": return book(a[0], a[1], a[2], a[3]);
            case "vote": return vote(a[0], a[1] != 0);
            default: return asked(name, a);
        }
    }

    int sourceCount() {
        return sources.size();
    }

    int massCount() {
        return masses.size();
    }

    int imageCount(int source) {
        return isSource(source) ? images(source).size() : 0;
    }

    /** The cell among these from which the most rays come. */
    int[] brightest(int[][] cells) {
        int[] best = cells[0];
        for (int[] c : cells) {
            best = hits(c[0], c[1]) > hits(best[0], best[1]) ? c : best;
        }
        return best;
    }

    private long asked(String name, int... a) {
        switch (name) {
            case "day": return day;
            case "from":
                argument(inField(a[0], a[1]));
                return comes(a[0], a[1])[a[2] != 0 ? 1 : 0];
            case "images":
            case "imagesAnew":
                index(isSource(a[0]));
                return images(a[0]).size();
            case "imageOf": return imageOf(a[0], a[1], a[2]);
            case "hits":
                argument(inField(a[0], a[1]));
                return hits(a[0], a[1]);
            case "lost": return lost();
            case "delay":
                index(isImage(a[0], a[1]) && isImage(a[0], a[2]));
                return late(a[0], a[2]) - late(a[0], a[1]);
            case "light":
                index(isImage(a[0], a[1]));
                return light(a[0], a[1]);
            case "frames": return frames.size();
            case "seen": return seen(a[0], a[1], a[2]);
            case "measured":
                index(isImage(a[0], a[1]) && isImage(a[0], a[2]));
                argument(a[1] != a[2] && a[1] <= 5 && a[2] <= 5);
                return measure(a[0], a[1], a[2]);
            case "booked":
                index(a[0] == 0 || a[0] == 1);
                state(open);
                return bookedBy(a[0]);
            case "isFresh":
                index(a[0] == 0 || a[0] == 1);
                state(bookings.containsKey(a[0]));
                return bookings.get(a[0]).masses().equals(masses) ? 1 : 0;
            case "dispute":
                state(open);
                return bookedBy(0) == -1 || bookedBy(1) == -1 ? -1 : Math.abs(bookedBy(0) - bookedBy(1));
            default: throw new AssertionError(name);
        }
    }

    private static void index(boolean holds) {
        if (!holds) {
            throw new IndexOutOfBoundsException();
        }
    }

    private static void argument(boolean holds) {
        if (!holds) {
            throw new IllegalArgumentException();
        }
    }

    private static void state(boolean holds) {
        if (!holds) {
            throw new IllegalStateException();
        }
    }

    private static boolean inField(int column, int row) {
        return column >= -10 && column <= 10 && row >= -10 && row <= 10;
    }

    private boolean isSource(int source) {
        return source >= 0 && source < sources.size();
    }

    private boolean isImage(int source, int rank) {
        return isSource(source) && rank >= 0 && rank < images(source).size();
    }

    private long mass(int shape, int column, int row, int strength) {
        argument(shape >= 0 && shape <= 2 && inField(column, row) && strength >= 1 && strength <= 8);
        state(masses.size() < 6);
        masses.add(new Mass(shape, column, row, strength));
        frames.clear();
        stars.clear();
        return masses.size() - 1;
    }

    private long two(int mass, int column, int row) {
        index(mass >= 0 && mass < masses.size());
        argument(inField(column, row));
        Mass m = masses.get(mass);
        state(m.strength() != 1 && masses.size() < 6);
        int half = m.strength() / 2 < 1 ? 1 : m.strength() / 2;
        masses.set(mass, new Mass(m.shape(), m.column(), m.row(), half));
        masses.add(new Mass(m.shape(), column, row, m.strength() - half));
        frames.clear();
        stars.clear();
        return masses.size() - 1;
    }

    private long source(int column, int row, int light) {
        argument(inField(column, row) && light >= 1 && light <= 100);
        state(sources.size() < 5);
        for (Source s : sources) {
            state(s.column() != column || s.row() != row);
        }
        sources.add(new Source(column, row, light));
        return sources.size() - 1;
    }

    private long flare(int source, int more) {
        index(isSource(source));
        argument(more >= -100 && more <= 100);
        state(flares.size() < 40);
        flares.add(new Flare(source, day, more));
        return sourceLight(source, day);
    }

    private long cross(int source, int rank, int width, int height) {
        index(isImage(source, rank));
        argument(width >= 1 && width <= 50 && height >= 1 && height <= 1000);
        state(stars.size() < 20);
        stars.add(new Star(source, rank, day, width, height));
        return 0;
    }

    private long season(int first, int last) {
        argument(first >= 0 && first <= 99 && last >= first && last <= 99);
        from = first;
        to = last;
        return 0;
    }

    private long cloud(int days) {
        argument(days >= 0 && days <= 50);
        clear = day + days;
        return clear;
    }

    private long world(int now) {
        argument(now >= 40 && now <= 100);
        state(frames.isEmpty());
        int was = growth;
        growth = now;
        return was;
    }

    private long frame() {
        int of100 = day - 100 * (day / 100);
        state(of100 >= from && of100 <= to);
        state(day >= clear);
        for (Frame f : frames) {
            state(f.day() != day);
        }
        state(frames.size() < 60);
        Map<String, Integer> lights = new HashMap<>();
        for (int s = 0; s < sources.size(); s++) {
            int found = images(s).size();
            for (int r = 0; r < 6 && r < found; r++) {
                lights.put(s + "/" + r, light(s, r));
            }
        }
        frames.add(new Frame(day, lights));
        return frames.size() - 1;
    }

    private long pass(int days) {
        argument(days >= 1 && days <= 100);
        state(day + days <= 2000);
        day += days;
        return day;
    }

    private long book(int house, int source, int rank, int other) {
        index((house == 0 || house == 1) && isImage(source, rank) && isImage(source, other));
        argument(rank != other);
        int days = rank > 5 || other > 5 ? -1 : measure(source, rank, other);
        int longer = images(source).get(other).way() - images(source).get(rank).way();
        int number = days == -1 || days == 0 || longer <= 0 ? -1 : longer * 20 / days;
        bookings.put(house, new Booking(number, new ArrayList<>(masses)));
        booked++;
        return booked;
    }

    private int bookedBy(int house) {
        return bookings.containsKey(house) ? bookings.get(house).growth() : -1;
    }

    private long vote(int mind, boolean isFor) {
        index(mind >= 0 && mind <= 4);
        minds[mind] = isFor;
        int count = 0;
        for (boolean m : minds) {
            count += m ? 1 : 0;
        }
        open |= count >= 3;
        return open ? 1 : 0;
    }

    private int[] comes(int column, int row) {
        int c = column;
        int r = row;
        for (Mass m : masses) {
            int a = column - m.column();
            int b = row - m.row();
            int n = (a < 0 ? -a : a) + (b < 0 ? -b : b);
            if (n == 0) {
                continue;
            }
            if (m.shape() == 0) {
                c -= m.strength() * a / n;
                r -= m.strength() * b / n;
            } else if (m.shape() == 1) {
                c -= 4 * m.strength() * a / (n * n);
                r -= 4 * m.strength() * b / (n * n);
            } else {
                c -= m.strength() * a / 8;
                r += m.strength() * b / 8;
            }
        }
        return new int[] {c, r};
    }

    private List<Image> images(int source) {
        List<Image> found = new ArrayList<>();
        Source s = sources.get(source);
        for (int c = -10; c <= 10; c++) {
            for (int r = -10; r <= 10; r++) {
                int[] own = comes(c, r);
                if (own[0] == s.column() && own[1] == s.row()) {
                    found.add(image(c, r, own));
                }
            }
        }
        found.sort(Comparator.comparingInt(Image::way).thenComparingInt(Image::row).thenComparingInt(Image::column));
        return found;
    }

    private Image image(int c, int r, int[] own) {
        int[] right = comes(c + 1, r);
        int[] next = comes(c, r + 1);
        int number = (right[0] - own[0]) * (next[1] - own[1]) - (right[1] - own[1]) * (next[0] - own[0]);
        int way = 5 * ((c - own[0]) * (c - own[0]) + (r - own[1]) * (r - own[1]));
        for (Mass m : masses) {
            way -= m.shape() == 2 ? 0 : 2 * m.strength() * (Math.abs(c - m.column()) + Math.abs(r - m.row()));
        }
        return new Image(c, r, number == 0 ? 24 : 24 / number, way);
    }

    private long imageOf(int source, int rank, int what) {
        index(isImage(source, rank));
        argument(what >= 0 && what <= 4);
        Image i = images(source).get(rank);
        return new int[] {i.column(), i.row(), i.bright(), i.way(), late(source, rank)}[what];
    }

    private int late(int source, int rank) {
        List<Image> all = images(source);
        return (all.get(rank).way() - all.get(0).way()) * 20 / growth;
    }

    private long hits(int column, int row) {
        int count = 0;
        for (int i = 0; i < 441; i++) {
            int[] own = comes(i / 21 - 10, i % 21 - 10);
            count += own[0] == column && own[1] == row ? 1 : 0;
        }
        return count;
    }

    private long lost() {
        int count = 0;
        for (int i = 0; i < 441; i++) {
            int[] own = comes(i / 21 - 10, i % 21 - 10);
            count += inField(own[0], own[1]) ? 0 : 1;
        }
        return count;
    }

    private int sourceLight(int source, int on) {
        int sum = sources.get(source).light();
        for (Flare f : flares) {
            sum += f.source() == source && f.day() <= on ? f.more() : 0;
        }
        return Math.max(0, sum);
    }

    private int light(int source, int rank) {
        int sum = Math.abs(images(source).get(rank).bright()) * sourceLight(source, day - late(source, rank));
        for (Star s : stars) {
            if (s.source() == source && s.rank() == rank && day >= s.day()) {
                int middle = s.day() + s.width();
                sum += Math.max(0, s.height() * (s.width() - Math.abs(day - middle)) / s.width());
            }
        }
        return sum;
    }

    private long seen(int frame, int source, int rank) {
        index(frame >= 0 && frame < frames.size() && isSource(source));
        argument(rank >= 0 && rank <= 5);
        return frames.get(frame).lights().getOrDefault(source + "/" + rank, -1);
    }

    private int measure(int source, int rank, int other) {
        long one = Math.abs(images(source).get(rank).bright());
        long two = Math.abs(images(source).get(other).bright());
        List<Integer> ones = new ArrayList<>();
        List<Integer> others = new ArrayList<>();
        for (Frame f : frames) {
            ones.add(f.lights().get(source + "/" + rank));
            others.add(f.lights().get(source + "/" + other));
        }
        int best = -1;
        long bestSum = 0;
        long bestPairs = 1;
        for (int days = 0; days <= 150; days++) {
            long sum = 0;
            long pairs = 0;
            for (int i = 0; i < frames.size(); i++) {
                for (int j = 0; j < frames.size(); j++) {
                    if (frames.get(j).day() - frames.get(i).day() == days && ones.get(i) != null && others.get(j) != null) {
                        sum += Math.abs(ones.get(i) * two - others.get(j) * one);
                        pairs++;
                    }
                }
            }
            if (pairs >= 3 && (best == -1 || sum * bestPairs < bestSum * pairs)) {
                best = days;
                bestSum = sum;
                bestPairs = pairs;
            }
        }
        return best;
    }
}
