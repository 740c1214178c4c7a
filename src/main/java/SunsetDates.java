/**
 * A calendar of versions that end: features by version, users with pledges to move, shims that
 * serve a feature for a price, and orders that are read from a text.
 */
public final class SunsetDates {
    /** There is no such thing. */
    public static final int NONE = -1;

    private static final int DAYS = 1000;
    private static final int LAST_DAY = DAYS - 1;
    private static final int LAST_RELEASE = 998;
    private static final int MOST_VERSIONS = 8;
    private static final int MOST_FEATURES = 10;
    private static final int MOST_USERS = 10;
    private static final int MOST_SHIMS = 12;
    private static final int MOST_TEXT = 100;
    private static final int MOST_BYTE = 127;
    private static final int MOST_SAVED = 4;
    private static final int MOST_DAYS_MORE = 99;
    private static final int MOST_PRICE = 99;
    private static final int SYNTAX_ERROR = -10;

    // What stands against a call; FINE if nothing does.
    private static final int FINE = 0;
    private static final int NOT_THERE = 1;
    private static final int OUT_OF_RANGE = 2;
    private static final int NOT_POSSIBLE = 3;

    // The answers of served().
    private static final int BY_VERSION = 0;
    private static final int BY_SHIM = 1;
    private static final int NOT_RELEASED = 2;
    private static final int ENDED = 3;
    private static final int NO_SHIM = 4;
    private static final int NOT_USED = 5;

    private final Calendar now = new Calendar();
    private final Calendar[] saved = new Calendar[MOST_SAVED];
    private int savedCount = 0;
    private final Orders orders = new Orders();

    public SunsetDates() {
        for (int i = 0; i < saved.length; i++) {
            saved[i] = new Calendar();
        }
    }

    // ---- calendar

    public int addVersion(int release, int end) throws IllegalArgumentException, IllegalStateException {
        requireWithin(release, 0, LAST_RELEASE);
        requireWithin(end, release + 1, DAYS);
        requirePossible(now.versions.count < MOST_VERSIONS);
        saveState();
        return now.versions.addRow(release, end);
    }

    public int addFeature(int versions) throws IllegalArgumentException, IllegalStateException {
        requireSet(versions, now.versions.count);
        requirePossible(now.featureCount < MOST_FEATURES);
        saveState();
        return now.appendFeature(versions);
    }

    public int put(int feature, int version, boolean has) throws IndexOutOfBoundsException, IllegalStateException {
        requireThere(feature, now.featureCount);
        requireThere(version, now.versions.count);
        requirePossible(contains(now.versions.features[version], feature) != has);
        saveState();
        now.versions.features[version] ^= 1 << feature;
        return now.versions.allWith(feature);
    }

    public int addUser(int version, int features)
            throws IndexOutOfBoundsException, IllegalArgumentException, IllegalStateException {
        requireThere(version, now.versions.count);
        requireSet(features, now.featureCount);
        requirePossible(now.users.count < MOST_USERS);
        saveState();
        return now.users.addRow(version, features);
    }

    public int pledge(int user, int version, int day) throws IndexOutOfBoundsException, IllegalArgumentException {
        refuse(now.pledgeFault(user, version, day));
        saveState();
        int before = now.users.pledgeDay[user];
        now.users.setPledge(user, version, day);
        return before;
    }

    public int takeBack(int user) throws IndexOutOfBoundsException, IllegalStateException {
        requireThere(user, now.users.count);
        requirePossible(now.users.isPledged(user));
        saveState();
        int before = now.users.pledgeDay[user];
        now.users.setPledge(user, NONE, NONE);
        return before;
    }

    public int slip(int user, int days)
            throws IndexOutOfBoundsException, IllegalArgumentException, IllegalStateException {
        refuse(now.slipFault(user, days));
        saveState();
        now.users.letSlip(user, days);
        return now.users.pledgeDay[user];
    }

    public int extend(int version, int days)
            throws IndexOutOfBoundsException, IllegalArgumentException, IllegalStateException {
        refuse(now.extendFault(version, days));
        saveState();
        now.versions.moveEnd(version, days);
        return now.versions.end[version];
    }

    public int addShim(int feature, int version, int first, int last, int price)
            throws IndexOutOfBoundsException, IllegalArgumentException, IllegalStateException {
        refuse(now.shimFault(feature, version, first, last, price));
        saveState();
        return now.shims.addRow(feature, version, first, last, price);
    }

    public int dropShim(int shim) throws IndexOutOfBoundsException {
        refuse(now.dropFault(shim));
        saveState();
        now.shims.remove(shim);
        return now.shims.count;
    }

    // ---- values

    public int version(int version, int what) throws IndexOutOfBoundsException, IllegalArgumentException {
        requireThere(version, now.versions.count);
        requireWithin(what, 0, 4);
        return now.ofVersion(version, what);
    }

    public int user(int user, int what) throws IndexOutOfBoundsException, IllegalArgumentException {
        requireThere(user, now.users.count);
        requireWithin(what, 0, 5);
        return now.users.about(user, what);
    }

    public int shim(int shim, int what) throws IndexOutOfBoundsException, IllegalArgumentException {
        requireThere(shim, now.shims.count);
        requireWithin(what, 0, 4);
        return now.shims.about(shim, what);
    }

    public int versionOn(int user, int day) throws IndexOutOfBoundsException, IllegalArgumentException {
        requireUserAndDay(user, day);
        return now.users.placeOn(user, day);
    }

    public int served(int user, int feature, int day) throws IndexOutOfBoundsException, IllegalArgumentException {
        requireThere(user, now.users.count);
        requireThere(feature, now.featureCount);
        requireDay(day);
        return now.howServed(user, feature, day);
    }

    public int missing(int user, int day) throws IndexOutOfBoundsException, IllegalArgumentException {
        requireUserAndDay(user, day);
        return now.unservedUses(user, day);
    }

    public int stranded(int day) throws IllegalArgumentException {
        requireDay(day);
        return now.strandedUsers(day);
    }

    public int costs(int first, int last) throws IllegalArgumentException {
        requireDays(first, last);
        return now.costOfAll(first, last);
    }

    public int value(int what) throws IllegalArgumentException {
        requireWithin(what, 0, 7);
        return now.number(what);
    }

    // ---- what if

    public int firstStranded(int user, int from) throws IndexOutOfBoundsException, IllegalArgumentException {
        requireUserAndDay(user, from);
        return now.firstDayStranded(user, from);
    }

    public int latestMove(int user, int version, int from) throws IndexOutOfBoundsException, IllegalArgumentException {
        requireThere(user, now.users.count);
        requireThere(version, now.versions.count);
        requireDay(from);
        return now.latestPledge(user, version, from);
    }

    public int bestVersion(int user, int day) throws IndexOutOfBoundsException, IllegalArgumentException {
        requireUserAndDay(user, day);
        return now.versionServingMost(now.users.uses[user], day);
    }

    public int cheapest(int user, int first, int last) throws IndexOutOfBoundsException, IllegalArgumentException {
        requireThere(user, now.users.count);
        requireDays(first, last);
        return now.versionCostingLeast(now.users.uses[user], first, last);
    }

    public int shimsNeeded(int day) throws IllegalArgumentException {
        requireDay(day);
        return now.pairsLacking(day);
    }

    public double share(int day) throws IllegalArgumentException {
        requireDay(day);
        int all = now.users.useCount();
        if (all == 0) {
            return 1.0;
        }
        return (double) (all - now.unservedCount(day)) / (double) all;
    }

    // ---- text

    public int append(int value) throws IllegalArgumentException, IllegalStateException {
        requireWithin(value, 0, MOST_BYTE);
        requirePossible(orders.length < MOST_TEXT);
        orders.write(value);
        return orders.length;
    }

    public int clearText() {
        int before = orders.length;
        orders.length = 0;
        return before;
    }

    public int carryOut() {
        int error = orders.syntaxError();
        if (error != NONE) {
            return SYNTAX_ERROR - error;
        }
        saveState();
        orders.rewind();
        int done = 0;
        while (done < MOST_TEXT && orders.readOrder() && carryOutOrder()) {
            done++;
        }
        return done;
    }

    // ---- state

    public int undo() throws IllegalStateException {
        requirePossible(savedCount > 0);
        savedCount--;
        now.copy(saved[savedCount]);
        return savedCount;
    }

    public long digest() {
        long hash = mixed(3733L, orders.length);
        for (int what = 0; what <= 7; what++) {
            hash = mixed(hash, now.number(what));
        }
        for (int version = 0; version < now.versions.count; version++) {
            for (int what = 0; what <= 4; what++) {
                hash = mixed(hash, now.ofVersion(version, what));
            }
        }
        for (int user = 0; user < now.users.count; user++) {
            for (int what = 0; what <= 5; what++) {
                hash = mixed(hash, now.users.about(user, what));
            }
            hash = mixed(hash, now.firstDayStranded(user, 0));
        }
        for (int shim = 0; shim < now.shims.count; shim++) {
            for (int what = 0; what <= 4; what++) {
                hash = mixed(hash, now.shims.about(shim, what));
            }
        }
        hash = mixed(hash, now.costOfAll(0, LAST_DAY));
        return mixed(hash, savedCount);
    }

    private static long mixed(long hash, int value) {
        return 31L * hash + value;
    }

    private static boolean contains(int set, int member) {
        return (set >> member & 1) != 0;
    }

    private static boolean isThere(int index, int count) {
        return index >= 0 && index < count;
    }

    private static boolean isWithin(int value, int least, int most) {
        return value >= least && value <= most;
    }

    private static void requireThere(int index, int count) {
        if (!isThere(index, count)) {
            throw new IndexOutOfBoundsException("there is no such thing");
        }
    }

    private static void requireWithin(int value, int least, int most) {
        if (!isWithin(value, least, most)) {
            throw new IllegalArgumentException("an argument is out of range");
        }
    }

    private static void requireSet(int set, int members) {
        requireWithin(set, 0, (1 << members) - 1);
    }

    private static void requireDay(int day) {
        requireWithin(day, 0, LAST_DAY);
    }

    private static void requireDays(int first, int last) {
        requireDay(first);
        requireWithin(last, first, LAST_DAY);
    }

    private void requireUserAndDay(int user, int day) {
        requireThere(user, now.users.count);
        requireDay(day);
    }

    private static void requirePossible(boolean possible) {
        if (!possible) {
            throw new IllegalStateException("this is not possible now");
        }
    }

    private static void refuse(int fault) {
        if (fault == NOT_THERE) {
            throw new IndexOutOfBoundsException("there is no such thing");
        }
        if (fault == OUT_OF_RANGE) {
            throw new IllegalArgumentException("an argument is out of range");
        }
        if (fault == NOT_POSSIBLE) {
            throw new IllegalStateException("this is not possible now");
        }
    }

    private void saveState() {
        if (savedCount == MOST_SAVED) {
            dropOldestState();
        }
        saved[savedCount].copy(now);
        savedCount++;
    }

    // The row of the oldest state becomes the free one at the end, so that none is made anew.
    private void dropOldestState() {
        Calendar oldest = saved[0];
        for (int i = 1; i < saved.length; i++) {
            saved[i - 1] = saved[i];
        }
        saved[saved.length - 1] = oldest;
        savedCount--;
    }

    // Looks for faults instead of catching exceptions: an order that is refused ends the work quietly.
    private boolean carryOutOrder() {
        int[] n = orders.numbers;
        switch (orders.letter) {
            case 'p':
                if (now.pledgeFault(n[0], n[1], n[2]) != FINE) {
                    return false;
                }
                now.users.setPledge(n[0], n[1], n[2]);
                return true;
            case 'l':
                if (now.slipFault(n[0], n[1]) != FINE) {
                    return false;
                }
                now.users.letSlip(n[0], n[1]);
                return true;
            case 'e':
                if (now.extendFault(n[0], n[1]) != FINE) {
                    return false;
                }
                now.versions.moveEnd(n[0], n[1]);
                return true;
            case 's':
                if (now.shimFault(n[0], n[1], n[2], n[3], n[4]) != FINE) {
                    return false;
                }
                now.shims.addRow(n[0], n[1], n[2], n[3], n[4]);
                return true;
            case 'd':
                if (now.dropFault(n[0]) != FINE) {
                    return false;
                }
                now.shims.remove(n[0]);
                return true;
            default:
                return false;
        }
    }

    /** The versions, and which features they have. */
    private static final class Versions {
        int count = 0;
        final int[] release = new int[MOST_VERSIONS];
        final int[] end = new int[MOST_VERSIONS];
        final int[] extended = new int[MOST_VERSIONS];
        final int[] features = new int[MOST_VERSIONS];

        void copy(Versions other) {
            count = other.count;
            System.arraycopy(other.release, 0, release, 0, MOST_VERSIONS);
            System.arraycopy(other.end, 0, end, 0, MOST_VERSIONS);
            System.arraycopy(other.extended, 0, extended, 0, MOST_VERSIONS);
            System.arraycopy(other.features, 0, features, 0, MOST_VERSIONS);
        }

        int addRow(int itsRelease, int itsEnd) {
            int version = count;
            release[version] = itsRelease;
            end[version] = itsEnd;
            extended[version] = 0;
            features[version] = 0;
            count++;
            return version;
        }

        void moveEnd(int version, int days) {
            end[version] += days;
            extended[version] += days;
        }

        boolean isAlive(int version, int day) {
            return day >= release[version] && day < end[version];
        }

        int allWith(int feature) {
            int set = 0;
            for (int version = 0; version < count; version++) {
                if (contains(features[version], feature)) {
                    set |= 1 << version;
                }
            }
            return set;
        }
    }

    /** The users; one without a pledge has NONE as its version and its day. */
    private static final class Users {
        int count = 0;
        final int[] first = new int[MOST_USERS];
        final int[] uses = new int[MOST_USERS];
        final int[] pledgeVersion = new int[MOST_USERS];
        final int[] pledgeDay = new int[MOST_USERS];
        final int[] slips = new int[MOST_USERS];
        final int[] slipDays = new int[MOST_USERS];

        void copy(Users other) {
            count = other.count;
            System.arraycopy(other.first, 0, first, 0, MOST_USERS);
            System.arraycopy(other.uses, 0, uses, 0, MOST_USERS);
            System.arraycopy(other.pledgeVersion, 0, pledgeVersion, 0, MOST_USERS);
            System.arraycopy(other.pledgeDay, 0, pledgeDay, 0, MOST_USERS);
            System.arraycopy(other.slips, 0, slips, 0, MOST_USERS);
            System.arraycopy(other.slipDays, 0, slipDays, 0, MOST_USERS);
        }

        int addRow(int version, int features) {
            int user = count;
            first[user] = version;
            uses[user] = features;
            setPledge(user, NONE, NONE);
            slips[user] = 0;
            slipDays[user] = 0;
            count++;
            return user;
        }

        void setPledge(int user, int version, int day) {
            pledgeVersion[user] = version;
            pledgeDay[user] = day;
        }

        boolean isPledged(int user) {
            return pledgeVersion[user] != NONE;
        }

        void letSlip(int user, int days) {
            pledgeDay[user] += days;
            slips[user]++;
            slipDays[user] += days;
        }

        int placeOn(int user, int day) {
            return isPledged(user) && pledgeDay[user] <= day ? pledgeVersion[user] : first[user];
        }

        int about(int user, int what) {
            switch (what) {
                case 0:
                    return first[user];
                case 1:
                    return uses[user];
                case 2:
                    return pledgeVersion[user];
                case 3:
                    return pledgeDay[user];
                case 4:
                    return slips[user];
                default:
                    return slipDays[user];
            }
        }

        int pledgeCount() {
            int pledges = 0;
            for (int user = 0; user < count; user++) {
                if (isPledged(user)) {
                    pledges++;
                }
            }
            return pledges;
        }

        int useCount() {
            int sum = 0;
            for (int user = 0; user < count; user++) {
                sum += Integer.bitCount(uses[user]);
            }
            return sum;
        }

        int slipCount() {
            int sum = 0;
            for (int user = 0; user < count; user++) {
                sum += slips[user];
            }
            return sum;
        }
    }

    /** The shims, in the order in which they were added. */
    private static final class Shims {
        int count = 0;
        final int[] feature = new int[MOST_SHIMS];
        final int[] version = new int[MOST_SHIMS];
        final int[] first = new int[MOST_SHIMS];
        final int[] last = new int[MOST_SHIMS];
        final int[] price = new int[MOST_SHIMS];

        void copy(Shims other) {
            count = other.count;
            System.arraycopy(other.feature, 0, feature, 0, MOST_SHIMS);
            System.arraycopy(other.version, 0, version, 0, MOST_SHIMS);
            System.arraycopy(other.first, 0, first, 0, MOST_SHIMS);
            System.arraycopy(other.last, 0, last, 0, MOST_SHIMS);
            System.arraycopy(other.price, 0, price, 0, MOST_SHIMS);
        }

        int addRow(int itsFeature, int itsVersion, int itsFirst, int itsLast, int itsPrice) {
            int shim = count;
            feature[shim] = itsFeature;
            version[shim] = itsVersion;
            first[shim] = itsFirst;
            last[shim] = itsLast;
            price[shim] = itsPrice;
            count++;
            return shim;
        }

        void remove(int shim) {
            count--;
            for (int i = shim; i < count; i++) {
                feature[i] = feature[i + 1];
                version[i] = version[i + 1];
                first[i] = first[i + 1];
                last[i] = last[i + 1];
                price[i] = price[i + 1];
            }
        }

        int about(int shim, int what) {
            switch (what) {
                case 0:
                    return feature[shim];
                case 1:
                    return version[shim];
                case 2:
                    return first[shim];
                case 3:
                    return last[shim];
                default:
                    return price[shim];
            }
        }

        boolean isActive(int shim, int itsVersion, int day) {
            return version[shim] == itsVersion && first[shim] <= day && day <= last[shim];
        }

        int countFor(int itsVersion) {
            int sum = 0;
            for (int shim = 0; shim < count; shim++) {
                if (version[shim] == itsVersion) {
                    sum++;
                }
            }
            return sum;
        }

        int activeFeatures(int itsVersion, int day) {
            int set = 0;
            for (int shim = 0; shim < count; shim++) {
                if (isActive(shim, itsVersion, day)) {
                    set |= 1 << feature[shim];
                }
            }
            return set;
        }

        // 0, which is no price, if none is active.
        int lowestPrice(int itsFeature, int itsVersion, int day) {
            int lowest = 0;
            for (int shim = 0; shim < count; shim++) {
                if (feature[shim] == itsFeature && isActive(shim, itsVersion, day)
                        && (lowest == 0 || price[shim] < lowest)) {
                    lowest = price[shim];
                }
            }
            return lowest;
        }
    }

    /** All that undo brings back. */
    private static final class Calendar {
        final Versions versions = new Versions();
        int featureCount = 0;
        final Users users = new Users();
        final Shims shims = new Shims();

        void copy(Calendar other) {
            versions.copy(other.versions);
            featureCount = other.featureCount;
            users.copy(other.users);
            shims.copy(other.shims);
        }

        int appendFeature(int itsVersions) {
            int feature = featureCount;
            for (int version = 0; version < versions.count; version++) {
                if (contains(itsVersions, version)) {
                    versions.features[version] |= 1 << feature;
                }
            }
            featureCount++;
            return feature;
        }

        // ---- what stands against a call that an order can make, too

        int pledgeFault(int user, int version, int day) {
            if (!isThere(user, users.count) || !isThere(version, versions.count)) {
                return NOT_THERE;
            }
            return isWithin(day, 0, LAST_DAY) ? FINE : OUT_OF_RANGE;
        }

        int slipFault(int user, int days) {
            if (!isThere(user, users.count)) {
                return NOT_THERE;
            }
            if (!isWithin(days, 1, MOST_DAYS_MORE)) {
                return OUT_OF_RANGE;
            }
            return users.isPledged(user) && users.pledgeDay[user] + days <= LAST_DAY ? FINE : NOT_POSSIBLE;
        }

        int extendFault(int version, int days) {
            if (!isThere(version, versions.count)) {
                return NOT_THERE;
            }
            if (!isWithin(days, 1, MOST_DAYS_MORE)) {
                return OUT_OF_RANGE;
            }
            return versions.end[version] + days <= DAYS ? FINE : NOT_POSSIBLE;
        }

        int shimFault(int feature, int version, int first, int last, int price) {
            if (!isThere(feature, featureCount) || !isThere(version, versions.count)) {
                return NOT_THERE;
            }
            if (!isWithin(first, 0, LAST_DAY) || !isWithin(last, first, LAST_DAY)
                    || !isWithin(price, 1, MOST_PRICE)) {
                return OUT_OF_RANGE;
            }
            return shims.count < MOST_SHIMS ? FINE : NOT_POSSIBLE;
        }

        int dropFault(int shim) {
            return isThere(shim, shims.count) ? FINE : NOT_THERE;
        }

        // ---- numbers

        int ofVersion(int version, int what) {
            switch (what) {
                case 0:
                    return versions.release[version];
                case 1:
                    return versions.end[version];
                case 2:
                    return versions.features[version];
                case 3:
                    return versions.extended[version];
                default:
                    return shims.countFor(version);
            }
        }

        int number(int what) {
            switch (what) {
                case 0:
                    return versions.count;
                case 1:
                    return featureCount;
                case 2:
                    return users.count;
                case 3:
                    return shims.count;
                case 4:
                    return users.pledgeCount();
                case 5:
                    return users.useCount();
                case 6:
                    return users.slipCount();
                default:
                    return strandedDays();
            }
        }

        // ---- one day

        int howServed(int user, int feature, int day) {
            if (!contains(users.uses[user], feature)) {
                return NOT_USED;
            }
            int version = users.placeOn(user, day);
            if (day < versions.release[version]) {
                return NOT_RELEASED;
            }
            if (day >= versions.end[version]) {
                return ENDED;
            }
            if (contains(versions.features[version], feature)) {
                return BY_VERSION;
            }
            return contains(shims.activeFeatures(version, day), feature) ? BY_SHIM : NO_SHIM;
        }

        int unserved(int uses, int version, int day) {
            if (!versions.isAlive(version, day)) {
                return uses;
            }
            return uses & ~(versions.features[version] | shims.activeFeatures(version, day));
        }

        int unservedUses(int user, int day) {
            return unserved(users.uses[user], users.placeOn(user, day), day);
        }

        int unservedCount(int day) {
            int sum = 0;
            for (int user = 0; user < users.count; user++) {
                sum += Integer.bitCount(unservedUses(user, day));
            }
            return sum;
        }

        int strandedUsers(int day) {
            int set = 0;
            for (int user = 0; user < users.count; user++) {
                if (unservedUses(user, day) != 0) {
                    set |= 1 << user;
                }
            }
            return set;
        }

        int costOn(int uses, int version, int day) {
            if (!versions.isAlive(version, day)) {
                return 0;
            }
            int others = uses & ~versions.features[version];
            int sum = 0;
            for (int feature = 0; feature < featureCount; feature++) {
                if (contains(others, feature)) {
                    sum += shims.lowestPrice(feature, version, day);
                }
            }
            return sum;
        }

        int costOfAllOn(int day) {
            int sum = 0;
            for (int user = 0; user < users.count; user++) {
                sum += costOn(users.uses[user], users.placeOn(user, day), day);
            }
            return sum;
        }

        int pairsLacking(int day) {
            int pairs = 0;
            for (int version = 0; version < versions.count; version++) {
                if (versions.isAlive(version, day)) {
                    pairs += Integer.bitCount(lackingOn(version, day));
                }
            }
            return pairs;
        }

        int lackingOn(int version, int day) {
            int set = 0;
            for (int user = 0; user < users.count; user++) {
                if (users.placeOn(user, day) == version) {
                    set |= unservedUses(user, day);
                }
            }
            return set;
        }

        int versionServingMost(int uses, int day) {
            int best = NONE;
            int fewestLeft = 0;
            for (int version = 0; version < versions.count; version++) {
                int left = Integer.bitCount(unserved(uses, version, day));
                if (versions.isAlive(version, day) && (best == NONE || left < fewestLeft)) {
                    best = version;
                    fewestLeft = left;
                }
            }
            return best;
        }

        // ---- many days

        // Between two changes every day is like the one before: the loops over days go from
        // change to change, which are at most 51 steps where the days are 1000.
        int nextChange(int day) {
            int next = DAYS;
            for (int version = 0; version < versions.count; version++) {
                next = earlier(next, versions.release[version], day);
                next = earlier(next, versions.end[version], day);
            }
            for (int user = 0; user < users.count; user++) {
                next = earlier(next, users.pledgeDay[user], day);
            }
            for (int shim = 0; shim < shims.count; shim++) {
                next = earlier(next, shims.first[shim], day);
                next = earlier(next, shims.last[shim] + 1, day);
            }
            return next;
        }

        static int earlier(int next, int change, int day) {
            return change > day && change < next ? change : next;
        }

        int strandedDays() {
            int sum = 0;
            int day = 0;
            while (day < DAYS) {
                int next = Math.max(day + 1, nextChange(day));
                if (strandedUsers(day) != 0) {
                    sum += next - day;
                }
                day = next;
            }
            return sum;
        }

        int costOfAll(int first, int last) {
            int sum = 0;
            int day = first;
            while (day <= last) {
                int next = Math.max(day + 1, Math.min(last + 1, nextChange(day)));
                sum += (next - day) * costOfAllOn(day);
                day = next;
            }
            return sum;
        }

        int costOfOne(int uses, int version, int first, int last) {
            int sum = 0;
            int day = first;
            while (day <= last) {
                int next = Math.max(day + 1, Math.min(last + 1, nextChange(day)));
                sum += (next - day) * costOn(uses, version, day);
                day = next;
            }
            return sum;
        }

        int firstDayStranded(int user, int from) {
            int day = from;
            while (day < DAYS) {
                if (unservedUses(user, day) != 0) {
                    return day;
                }
                day = Math.max(day + 1, nextChange(day));
            }
            return NONE;
        }

        int firstDayUnserved(int uses, int version, int first, int last) {
            int day = first;
            while (day <= last) {
                if (unserved(uses, version, day) != 0) {
                    return day;
                }
                day = Math.max(day + 1, nextChange(day));
            }
            return NONE;
        }

        // The day from which on the version serves the uses up to the last day of all.
        int servedFrom(int uses, int version, int from) {
            int since = from;
            int day = from;
            while (day < DAYS) {
                int next = Math.max(day + 1, nextChange(day));
                if (unserved(uses, version, day) != 0) {
                    since = next;
                }
                day = next;
            }
            return since;
        }

        // The first version must serve up to the day before the move, the other one from the move on:
        // so the day on which the first version fails is the latest that can be.
        int latestPledge(int user, int version, int from) {
            int uses = users.uses[user];
            int fails = firstDayUnserved(uses, users.first[user], from, LAST_DAY);
            int latest = fails == NONE ? LAST_DAY : fails;
            return latest >= servedFrom(uses, version, from) ? latest : NONE;
        }

        int versionCostingLeast(int uses, int first, int last) {
            int best = NONE;
            int least = 0;
            for (int version = 0; version < versions.count; version++) {
                if (firstDayUnserved(uses, version, first, last) == NONE) {
                    int cost = costOfOne(uses, version, first, last);
                    if (best == NONE || cost < least) {
                        best = version;
                        least = cost;
                    }
                }
            }
            return best;
        }
    }

    /** The text, and a reader that takes one order of it after the other. */
    private static final class Orders {
        // Parts of an order behind its letter; any other sign stands for itself.
        private static final char DIGIT = 'n';
        private static final char VERSION_DIGIT = 'v';
        private static final char DAY = 'd';
        private static final char FROM_ONE = 'm';
        private static final char FROM_ZERO = 'z';

        final byte[] text = new byte[MOST_TEXT];
        int length = 0;
        int cursor = 0;
        int error = NONE;
        int letter = 0;
        final int[] numbers = new int[5];
        int numberCount = 0;

        void write(int value) {
            text[length] = (byte) value;
            length++;
        }

        void rewind() {
            cursor = 0;
        }

        int syntaxError() {
            rewind();
            for (int order = 0; order < MOST_TEXT && cursor < length; order++) {
                if (!readOrder()) {
                    return error;
                }
            }
            return NONE;
        }

        // False at the end of the text, and at a syntax error, which is then in error.
        boolean readOrder() {
            if (cursor >= length) {
                return false;
            }
            letter = text[cursor];
            String parts = partsOf(letter);
            if (parts.isEmpty()) {
                return fail(cursor);
            }
            cursor++;
            numberCount = 0;
            for (int i = 0; i < parts.length(); i++) {
                if (!readPart(parts.charAt(i))) {
                    return false;
                }
            }
            return true;
        }

        static String partsOf(int letter) {
            switch (letter) {
                case 'p':
                    return "nv@d;";
                case 'l':
                    return "n+m;";
                case 'e':
                    return "v+m;";
                case 's':
                    return "nv:d-d,m;";
                case 'd':
                    return "z;";
                default:
                    return "";
            }
        }

        boolean readPart(char part) {
            switch (part) {
                case DIGIT:
                    return readDigit('9');
                case VERSION_DIGIT:
                    return readDigit('7');
                case DAY:
                    return readNumber(3, 0);
                case FROM_ONE:
                    return readNumber(2, 1);
                case FROM_ZERO:
                    return readNumber(2, 0);
                default:
                    return readSign(part);
            }
        }

        boolean readSign(char sign) {
            if (!isNextWithin(sign, sign)) {
                return fail(cursor);
            }
            cursor++;
            return true;
        }

        boolean readDigit(char most) {
            if (!isNextWithin('0', most)) {
                return fail(cursor);
            }
            keep(text[cursor] - '0');
            cursor++;
            return true;
        }

        boolean readNumber(int mostDigits, int least) {
            int start = cursor;
            int number = 0;
            while (cursor < length && isNextWithin('0', '9')) {
                if (cursor - start == mostDigits) {
                    return fail(cursor);
                }
                number = 10 * number + text[cursor] - '0';
                cursor++;
            }
            if (cursor == start) {
                return fail(cursor);
            }
            if (number < least) {
                return fail(start);
            }
            keep(number);
            return true;
        }

        boolean isNextWithin(char least, char most) {
            return cursor < length && text[cursor] >= least && text[cursor] <= most;
        }

        boolean fail(int position) {
            error = position;
            return false;
        }

        void keep(int number) {
            if (numberCount < numbers.length) {
                numbers[numberCount] = number;
                numberCount++;
            }
        }
    }
}
