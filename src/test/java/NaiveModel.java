import java.util.ArrayList;
import java.util.List;
import java.util.TreeSet;

/** The document once more, as plainly as can be: lists, a look at every day, exceptions where they fall. */
final class NaiveModel {
    private static final class Version {
        int release;
        int end;
        int extended;
    }

    private static final class User {
        int first;
        TreeSet<Integer> uses = new TreeSet<>();
        int pledgeVersion = -1;
        int pledgeDay = -1;
        int slips;
        int slipDays;
    }

    private record Shim(int feature, int version, int first, int last, int price) { }

    private static final class State {
        List<Version> versions = new ArrayList<>();
        List<TreeSet<Integer>> features = new ArrayList<>();
        List<User> users = new ArrayList<>();
        List<Shim> shims = new ArrayList<>();

        State copy() {
            State copy = new State();
            for (Version v : versions) {
                Version w = new Version();
                w.release = v.release;
                w.end = v.end;
                w.extended = v.extended;
                copy.versions.add(w);
            }
            for (TreeSet<Integer> f : features) {
                copy.features.add(new TreeSet<>(f));
            }
            for (User u : users) {
                User w = new User();
                w.first = u.first;
                w.uses = new TreeSet<>(u.uses);
                w.pledgeVersion = u.pledgeVersion;
                w.pledgeDay = u.pledgeDay;
                w.slips = u.slips;
                w.slipDays = u.slipDays;
                copy.users.add(w);
            }
            copy.shims.addAll(shims);
            return copy;
        }
    }

    private State s = new State();
    private final List<State> saved = new ArrayList<>();
    private final StringBuilder text = new StringBuilder();

    private void save(State before) {
        saved.add(before);
        if (saved.size() > 4) {
            saved.remove(0);
        }
    }

    private static void there(int index, List<?> list) {
        if (index < 0 || index >= list.size()) {
            throw new IndexOutOfBoundsException();
        }
    }

    private static void range(boolean good) {
        if (!good) {
            throw new IllegalArgumentException();
        }
    }

    private static void can(boolean good) {
        if (!good) {
            throw new IllegalStateException();
        }
    }

    private static void day(int day) {
        range(day >= 0 && day <= 999);
    }

    private static TreeSet<Integer> members(int set, int count) {
        range(set >= 0);
        TreeSet<Integer> members = new TreeSet<>();
        for (int i = 0; i < 31; i++) {
            if ((set >> i) % 2 == 1) {
                range(i < count);
                members.add(i);
            }
        }
        return members;
    }

    private static int number(Iterable<Integer> members) {
        int number = 0;
        for (int i : members) {
            number += (int) Math.pow(2, i);
        }
        return number;
    }

    int addVersion(int release, int end) {
        range(release >= 0 && release <= 998);
        range(end > release && end <= 1000);
        can(s.versions.size() < 8);
        save(s.copy());
        Version v = new Version();
        v.release = release;
        v.end = end;
        s.versions.add(v);
        return s.versions.size() - 1;
    }

    int addFeature(int versions) {
        TreeSet<Integer> has = members(versions, s.versions.size());
        can(s.features.size() < 10);
        save(s.copy());
        s.features.add(has);
        return s.features.size() - 1;
    }

    int put(int feature, int version, boolean has) {
        there(feature, s.features);
        there(version, s.versions);
        can(s.features.get(feature).contains(version) != has);
        save(s.copy());
        if (has) {
            s.features.get(feature).add(version);
        } else {
            s.features.get(feature).remove(version);
        }
        return number(s.features.get(feature));
    }

    int addUser(int version, int features) {
        there(version, s.versions);
        TreeSet<Integer> uses = members(features, s.features.size());
        can(s.users.size() < 10);
        save(s.copy());
        User u = new User();
        u.first = version;
        u.uses = uses;
        s.users.add(u);
        return s.users.size() - 1;
    }

    int pledge(int user, int version, int day) {
        State before = s.copy();
        int answer = doPledge(user, version, day);
        save(before);
        return answer;
    }

    private int doPledge(int user, int version, int day) {
        there(user, s.users);
        there(version, s.versions);
        day(day);
        User u = s.users.get(user);
        int answer = u.pledgeDay;
        u.pledgeVersion = version;
        u.pledgeDay = day;
        return answer;
    }

    int takeBack(int user) {
        there(user, s.users);
        User u = s.users.get(user);
        can(u.pledgeDay >= 0);
        int answer = u.pledgeDay;
        save(s.copy());
        u.pledgeDay = -1;
        u.pledgeVersion = -1;
        return answer;
    }

    int slip(int user, int days) {
        State before = s.copy();
        int answer = doSlip(user, days);
        save(before);
        return answer;
    }

    private int doSlip(int user, int days) {
        there(user, s.users);
        range(days >= 1 && days <= 99);
        User u = s.users.get(user);
        can(u.pledgeDay >= 0);
        can(u.pledgeDay + days < 1000);
        u.pledgeDay += days;
        u.slips++;
        u.slipDays += days;
        return u.pledgeDay;
    }

    int extend(int version, int days) {
        State before = s.copy();
        int answer = doExtend(version, days);
        save(before);
        return answer;
    }

    private int doExtend(int version, int days) {
        there(version, s.versions);
        range(days >= 1 && days <= 99);
        Version v = s.versions.get(version);
        can(v.end + days < 1001);
        v.end += days;
        v.extended += days;
        return v.end;
    }

    int addShim(int feature, int version, int first, int last, int price) {
        State before = s.copy();
        int answer = doAddShim(feature, version, first, last, price);
        save(before);
        return answer;
    }

    private int doAddShim(int feature, int version, int first, int last, int price) {
        there(feature, s.features);
        there(version, s.versions);
        day(first);
        day(last);
        range(first <= last);
        range(price >= 1 && price <= 99);
        can(s.shims.size() < 12);
        s.shims.add(new Shim(feature, version, first, last, price));
        return s.shims.size() - 1;
    }

    int dropShim(int shim) {
        State before = s.copy();
        int answer = doDropShim(shim);
        save(before);
        return answer;
    }

    private int doDropShim(int shim) {
        there(shim, s.shims);
        s.shims.remove(shim);
        return s.shims.size();
    }

    int version(int version, int what) {
        there(version, s.versions);
        range(what >= 0 && what <= 4);
        Version v = s.versions.get(version);
        if (what == 2) {
            TreeSet<Integer> has = new TreeSet<>();
            for (int f = 0; f < s.features.size(); f++) {
                if (s.features.get(f).contains(version)) {
                    has.add(f);
                }
            }
            return number(has);
        }
        int shims = 0;
        for (Shim shim : s.shims) {
            shims += shim.version == version ? 1 : 0;
        }
        return new int[] {v.release, v.end, -99, v.extended, shims}[what];
    }

    int user(int user, int what) {
        there(user, s.users);
        range(what >= 0 && what <= 5);
        User u = s.users.get(user);
        return new int[] {u.first, number(u.uses), u.pledgeVersion, u.pledgeDay, u.slips, u.slipDays}[what];
    }

    int shim(int shim, int what) {
        there(shim, s.shims);
        range(what >= 0 && what <= 4);
        Shim h = s.shims.get(shim);
        return new int[] {h.feature, h.version, h.first, h.last, h.price}[what];
    }

    int versionOn(int user, int day) {
        there(user, s.users);
        day(day);
        User u = s.users.get(user);
        return u.pledgeDay == -1 || day < u.pledgeDay ? u.first : u.pledgeVersion;
    }

    /** The answer of served() for a use on a version. */
    private int how(int feature, int version, int day) {
        Version v = s.versions.get(version);
        if (day < v.release) {
            return 2;
        }
        if (day > v.end - 1) {
            return 3;
        }
        if (s.features.get(feature).contains(version)) {
            return 0;
        }
        return price(feature, version, day) == Integer.MAX_VALUE ? 4 : 1;
    }

    private int price(int feature, int version, int day) {
        int price = Integer.MAX_VALUE;
        for (Shim h : s.shims) {
            if (h.feature == feature && h.version == version && !(day < h.first) && !(day > h.last)) {
                price = Math.min(price, h.price);
            }
        }
        return price;
    }

    int served(int user, int feature, int day) {
        there(user, s.users);
        there(feature, s.features);
        day(day);
        if (!s.users.get(user).uses.contains(feature)) {
            return 5;
        }
        return how(feature, versionOn(user, day), day);
    }

    int missing(int user, int day) {
        there(user, s.users);
        day(day);
        TreeSet<Integer> missing = new TreeSet<>();
        for (int f : s.users.get(user).uses) {
            if (served(user, f, day) > 1) {
                missing.add(f);
            }
        }
        return number(missing);
    }

    int stranded(int day) {
        day(day);
        TreeSet<Integer> stranded = new TreeSet<>();
        for (int u = 0; u < s.users.size(); u++) {
            if (missing(u, day) > 0) {
                stranded.add(u);
            }
        }
        return number(stranded);
    }

    int costs(int first, int last) {
        day(first);
        day(last);
        range(first <= last);
        int sum = 0;
        for (int day = first; day <= last; day++) {
            for (int u = 0; u < s.users.size(); u++) {
                sum += cost(u, versionOn(u, day), day);
            }
        }
        return sum;
    }

    private int cost(int user, int version, int day) {
        int sum = 0;
        for (int f : s.users.get(user).uses) {
            if (how(f, version, day) == 1) {
                sum += price(f, version, day);
            }
        }
        return sum;
    }

    int value(int what) {
        range(what >= 0 && what <= 7);
        int pledges = 0;
        int uses = 0;
        int slips = 0;
        for (User u : s.users) {
            pledges += u.pledgeDay >= 0 ? 1 : 0;
            uses += u.uses.size();
            slips += u.slips;
        }
        int days = 0;
        for (int day = 0; what == 7 && day < 1000; day++) {
            days += stranded(day) > 0 ? 1 : 0;
        }
        return new int[] {s.versions.size(), s.features.size(), s.users.size(), s.shims.size(),
            pledges, uses, slips, days}[what];
    }

    int firstStranded(int user, int from) {
        there(user, s.users);
        day(from);
        for (int day = from; day < 1000; day++) {
            if (missing(user, day) > 0) {
                return day;
            }
        }
        return -1;
    }

    int latestMove(int user, int version, int from) {
        there(user, s.users);
        there(version, s.versions);
        day(from);
        User u = s.users.get(user);
        int oldVersion = u.pledgeVersion;
        int oldDay = u.pledgeDay;
        int latest = -1;
        u.pledgeVersion = version;
        for (int day = 999; day >= from && latest < 0; day--) {
            u.pledgeDay = day;
            if (firstStranded(user, from) < 0) {
                latest = day;
            }
        }
        u.pledgeVersion = oldVersion;
        u.pledgeDay = oldDay;
        return latest;
    }

    int bestVersion(int user, int day) {
        there(user, s.users);
        day(day);
        int best = -1;
        int most = -1;
        for (int v = 0; v < s.versions.size(); v++) {
            Version version = s.versions.get(v);
            if (day < version.release || day >= version.end) {
                continue;
            }
            int count = 0;
            for (int f : s.users.get(user).uses) {
                count += how(f, v, day) < 2 ? 1 : 0;
            }
            if (count > most) {
                most = count;
                best = v;
            }
        }
        return best;
    }

    int cheapest(int user, int first, int last) {
        there(user, s.users);
        day(first);
        day(last);
        range(first <= last);
        int best = -1;
        int least = Integer.MAX_VALUE;
        for (int v = 0; v < s.versions.size(); v++) {
            int sum = 0;
            for (int day = first; day <= last && sum >= 0; day++) {
                for (int f : s.users.get(user).uses) {
                    if (how(f, v, day) > 1) {
                        sum = -1;
                        break;
                    }
                }
                sum = sum < 0 ? -1 : sum + cost(user, v, day);
            }
            if (sum >= 0 && sum < least) {
                least = sum;
                best = v;
            }
        }
        return best;
    }

    int shimsNeeded(int day) {
        day(day);
        TreeSet<Integer> pairs = new TreeSet<>();
        for (int u = 0; u < s.users.size(); u++) {
            for (int f = 0; f < s.features.size(); f++) {
                if (served(u, f, day) == 4) {
                    pairs.add(100 * f + versionOn(u, day));
                }
            }
        }
        return pairs.size();
    }

    double share(int day) {
        day(day);
        int all = 0;
        int good = 0;
        for (int u = 0; u < s.users.size(); u++) {
            for (int f : s.users.get(u).uses) {
                all++;
                good += served(u, f, day) <= 1 ? 1 : 0;
            }
        }
        return all == 0 ? 1.0 : (double) good / (double) all;
    }

    int append(int value) {
        range(value >= 0 && value <= 127);
        can(text.length() < 100);
        text.append((char) value);
        return text.length();
    }

    int clearText() {
        int length = text.length();
        text.setLength(0);
        return length;
    }

    int carryOut() {
        int error = NaiveSyntax.errorPosition(text.toString());
        if (error >= 0) {
            return -10 - error;
        }
        save(s.copy());
        int done = 0;
        try {
            for (String order : text.toString().split(";")) {
                if (!order.isEmpty()) {
                    carryOutOrder(order);
                    done++;
                }
            }
        } catch (IndexOutOfBoundsException | IllegalArgumentException | IllegalStateException e) {
            return done;
        }
        return done;
    }

    private void carryOutOrder(String order) {
        int first = order.length() > 1 ? order.charAt(1) - '0' : 0;
        int second = order.length() > 2 ? order.charAt(2) - '0' : 0;
        switch (order.charAt(0)) {
            case 'p' -> doPledge(first, second, Integer.parseInt(order.substring(4)));
            case 'l' -> doSlip(first, Integer.parseInt(order.substring(3)));
            case 'e' -> doExtend(first, Integer.parseInt(order.substring(3)));
            case 'd' -> doDropShim(Integer.parseInt(order.substring(1)));
            default -> {
                String[] numbers = order.substring(4).split("[-,]");
                doAddShim(first, second, Integer.parseInt(numbers[0]), Integer.parseInt(numbers[1]),
                    Integer.parseInt(numbers[2]));
            }
        }
    }

    int undo() {
        can(!saved.isEmpty());
        s = saved.remove(saved.size() - 1);
        return saved.size();
    }

    long digest() {
        long h = 31 * 3733L + text.length();
        for (int what = 0; what < 8; what++) {
            h = 31 * h + value(what);
        }
        for (int v = 0; v < s.versions.size(); v++) {
            for (int what = 0; what < 5; what++) {
                h = 31 * h + version(v, what);
            }
        }
        for (int u = 0; u < s.users.size(); u++) {
            for (int what = 0; what < 6; what++) {
                h = 31 * h + user(u, what);
            }
            h = 31 * h + firstStranded(u, 0);
        }
        for (int i = 0; i < s.shims.size(); i++) {
            for (int what = 0; what < 5; what++) {
                h = 31 * h + shim(i, what);
            }
        }
        h = 31 * h + costs(0, 999);
        return 31 * h + saved.size();
    }
}
