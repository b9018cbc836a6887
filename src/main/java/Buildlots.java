import java.util.NoSuchElementException;

/**
 * A packaging line: builds made from builds, attested with keys, recalled, mirrored and rebuilt.
 * A set of keys, signers or builds is an int: the sum of 2 to the power of the number of each.
 */
public final class Buildlots {
    private static final int SIGNERS = 4;
    private static final int NAMES = 5;
    private static final int MOST_KEYS = 8;
    private static final int MOST_BUILDS = 24;
    private static final int MOST_MIRRORS = 3;
    private static final int MOST_RESULTS = 99;
    private static final int LAST_DAY = 999;
    private static final int MOST_DAYS_AT_ONCE = 60;
    private static final int MOST_WEIGHT = 100;
    private static final int MOST_THRESHOLD = 400;
    private static final int MOST_EXPIRY = 99;
    private static final int FIRST_WEIGHT = 50;
    private static final int FIRST_THRESHOLD = 100;
    private static final int FIRST_EXPIRY = 7;
    private static final int NEVER = -1;
    private static final int NONE = -1;

    private final Keys keys;
    private final Builds builds;
    private final Mirrors mirrors;
    private final int[] weights;
    private final int[] thresholds;
    private int expiry;
    private int today;

    public Buildlots() {
        keys = new Keys();
        builds = new Builds();
        mirrors = new Mirrors();
        weights = new int[SIGNERS];
        thresholds = new int[NAMES];
        expiry = FIRST_EXPIRY;
        today = 0;
        for (int signer = 0; signer < SIGNERS; signer++) {
            weights[signer] = FIRST_WEIGHT;
        }
        for (int name = 0; name < NAMES; name++) {
            thresholds[name] = FIRST_THRESHOLD;
        }
    }

    // Keys and weights

    public int addKey(int signer, int first, int last) throws IllegalArgumentException, IllegalStateException {
        requireSigner(signer);
        if (first < today || last < first || last > LAST_DAY) {
            throw new IllegalArgumentException("no span of days from today on");
        }
        if (keys.count >= MOST_KEYS) {
            throw new IllegalStateException("no room for another key");
        }
        return keys.append(signer, first, last);
    }

    public int loseKey(int key) throws IndexOutOfBoundsException, IllegalStateException {
        requireKey(key);
        if (holds(keys.lost, key)) {
            throw new IllegalStateException("the key is lost");
        }
        int trustedBefore = trustedBuilds();
        keys.lost |= only(key);
        builds.keepVouchers(keys, today);
        return Integer.bitCount(trustedBefore & ~trustedBuilds());
    }

    public int extendKey(int key, int last)
            throws IndexOutOfBoundsException, IllegalArgumentException, IllegalStateException {
        requireKey(key);
        int lastBefore = keys.lasts[key];
        if (last <= lastBefore || last > LAST_DAY) {
            throw new IllegalArgumentException("no later day");
        }
        if (holds(keys.lost, key) || lastBefore < today) {
            throw new IllegalStateException("the key is lost or its last day has passed");
        }
        keys.lasts[key] = last;
        return lastBefore;
    }

    public boolean isLive(int key) throws IndexOutOfBoundsException {
        requireKey(key);
        return keys.liveOn(key, today);
    }

    public int setWeight(int signer, int weight) throws IllegalArgumentException {
        requireSigner(signer);
        if (weight < 0 || weight > MOST_WEIGHT) {
            throw new IllegalArgumentException("no such weight");
        }
        int weightBefore = weights[signer];
        weights[signer] = weight;
        return weightBefore;
    }

    public int setThreshold(int name, int threshold) throws IllegalArgumentException {
        requireName(name);
        if (threshold < 1 || threshold > MOST_THRESHOLD) {
            throw new IllegalArgumentException("no such threshold");
        }
        int thresholdBefore = thresholds[name];
        thresholds[name] = threshold;
        return thresholdBefore;
    }

    // Builds

    public int build(int name, int inputs, int result)
            throws IllegalArgumentException, UnsupportedOperationException, IllegalStateException {
        requireName(name);
        if ((inputs & ~builds.all()) != 0) {
            throw new IllegalArgumentException("an input is no build");
        }
        if ((inputs & builds.recalled()) != 0) {
            throw new UnsupportedOperationException("an input is recalled");
        }
        if (builds.count >= MOST_BUILDS) {
            throw new IllegalStateException("no room for another build");
        }
        return builds.append(name, inputs, result);
    }

    public int nameOf(int build) throws IndexOutOfBoundsException {
        requireBuild(build);
        return builds.names[build];
    }

    public int version(int build) throws IndexOutOfBoundsException {
        requireBuild(build);
        return builds.versions[build];
    }

    public boolean uses(int build, int other) throws IndexOutOfBoundsException {
        requireBuild(build);
        requireBuild(other);
        return holds(builds.sources[build], other);
    }

    public int used(int build) throws IndexOutOfBoundsException {
        requireBuild(build);
        return Integer.bitCount(builds.sources[build]);
    }

    public int newest(int name) throws IllegalArgumentException, NoSuchElementException {
        requireName(name);
        return requireFound(builds.newestOf(name, trustedBuilds() & ~builds.recalled()));
    }

    // Trust

    public int attest(int build, int key)
            throws IndexOutOfBoundsException, IllegalStateException, UnsupportedOperationException {
        requireBuild(build);
        requireKey(key);
        if (!keys.liveOn(key, today) || holds(builds.attesters[build], key)) {
            throw new IllegalStateException("the key is not live or has attested the build");
        }
        if (holds(builds.recalled(), build)) {
            throw new UnsupportedOperationException("the build is recalled");
        }
        builds.attesters[build] |= only(key);
        builds.vouchers[build] |= only(keys.signers[key]);
        return Integer.bitCount(builds.attesters[build]);
    }

    public boolean vouches(int build, int signer) throws IndexOutOfBoundsException, IllegalArgumentException {
        requireBuild(build);
        requireSigner(signer);
        return holds(builds.vouchers[build], signer);
    }

    public boolean vouchesByList(int build, int signer) throws IndexOutOfBoundsException, IllegalArgumentException {
        requireBuild(build);
        requireSigner(signer);
        return holds(keys.signersOf(builds.attesters[build] & keys.live(today)), signer);
    }

    public float score(int build) throws IndexOutOfBoundsException {
        requireBuild(build);
        return scoreFrom(builds.vouchers[build]);
    }

    public int scoreBits(int build) throws IndexOutOfBoundsException {
        requireBuild(build);
        return floatBits(scoreFrom(builds.vouchers[build]));
    }

    public boolean isTrusted(int build) throws IndexOutOfBoundsException {
        requireBuild(build);
        return suffices(builds.vouchers[build], build);
    }

    public int hangsOnKey(int key) throws IndexOutOfBoundsException {
        requireKey(key);
        int liveWithoutKey = keys.live(today) & ~only(key);
        int hanging = 0;
        for (int build = 0; build < builds.count; build++) {
            int vouchersWithoutKey = keys.signersOf(builds.attesters[build] & liveWithoutKey);
            if (suffices(builds.vouchers[build], build) && !suffices(vouchersWithoutKey, build)) {
                hanging++;
            }
        }
        return hanging;
    }

    // Recalls and rebuilders

    public int recall(int build) throws IndexOutOfBoundsException, IllegalStateException {
        requireBuild(build);
        if (holds(builds.marked, build)) {
            throw new IllegalStateException("the build is marked");
        }
        int recalledBefore = builds.recalled();
        builds.marked |= only(build);
        return Integer.bitCount(builds.recalled() & ~recalledBefore);
    }

    public int lift(int build) throws IndexOutOfBoundsException, IllegalStateException {
        requireBuild(build);
        if (!holds(builds.marked, build)) {
            throw new IllegalStateException("the build is not marked");
        }
        int recalledBefore = builds.recalled();
        builds.marked &= ~only(build);
        return Integer.bitCount(recalledBefore & ~builds.recalled());
    }

    public boolean isRecalled(int build) throws IndexOutOfBoundsException {
        requireBuild(build);
        return holds(builds.recalled(), build);
    }

    public boolean rebuild(int build, int result) throws IndexOutOfBoundsException, IllegalStateException {
        requireBuild(build);
        if (builds.told[build] >= MOST_RESULTS) {
            throw new IllegalStateException("no room for another result");
        }
        boolean same = result == builds.results[build];
        builds.told[build]++;
        if (same) {
            builds.confirmed[build]++;
        }
        return same;
    }

    public float share(int build) throws IndexOutOfBoundsException, NoSuchElementException {
        requireBuild(build);
        int told = builds.told[build];
        if (told <= 0) {
            throw new NoSuchElementException("no result was told");
        }
        return (float) builds.confirmed[build] / (float) told;
    }

    // Mirrors, clients and days

    public int addMirror() throws IllegalStateException {
        if (mirrors.count >= MOST_MIRRORS) {
            throw new IllegalStateException("no room for another mirror");
        }
        return mirrors.append();
    }

    public int update(int mirror) throws IndexOutOfBoundsException {
        requireMirror(mirror);
        mirrors.offered[mirror] = builds.all() & ~builds.recalled();
        mirrors.updatedOn[mirror] = today;
        return builds.count;
    }

    public boolean isExpired(int mirror) throws IndexOutOfBoundsException {
        requireMirror(mirror);
        return hasExpired(mirror);
    }

    public int setExpiry(int days) throws IllegalArgumentException {
        if (days < 0 || days > MOST_EXPIRY) {
            throw new IllegalArgumentException("no such expiry");
        }
        int expiryBefore = expiry;
        expiry = days;
        return expiryBefore;
    }

    public int install(int mirror, int name)
            throws IndexOutOfBoundsException, IllegalArgumentException, UnsupportedOperationException,
                    NoSuchElementException {
        requireMirror(mirror);
        requireName(name);
        if (hasExpired(mirror)) {
            throw new UnsupportedOperationException("the list is expired");
        }
        return requireFound(builds.newestOf(name, trustedBuilds() & mirrors.offered[mirror]));
    }

    public int pass(int days) throws IllegalArgumentException {
        // today is subtracted from the last day, so that no sum of days can wrap around
        if (days < 1 || days > MOST_DAYS_AT_ONCE || days > LAST_DAY - today) {
            throw new IllegalArgumentException("no such number of days");
        }
        int trustedBefore = trustedBuilds();
        today += days;
        builds.keepVouchers(keys, today);
        return Integer.bitCount(trustedBefore & ~trustedBuilds());
    }

    public int day() {
        return today;
    }

    public long scoreSumBits() {
        double sum = 0.0;
        for (int build = 0; build < builds.count; build++) {
            sum = sum + (double) scoreFrom(builds.vouchers[build]);
        }
        return doubleBits(sum);
    }

    // What several calls need

    private float scoreFrom(int vouchers) {
        float sum = 0.0f;
        for (int signer = 0; signer < SIGNERS; signer++) {
            if (holds(vouchers, signer)) {
                sum = sum + (float) weights[signer] / 100.0f;
            }
        }
        return sum;
    }

    private boolean suffices(int vouchers, int build) {
        return scoreFrom(vouchers) >= (float) thresholds[builds.names[build]] / 100.0f;
    }

    private int trustedBuilds() {
        int trusted = 0;
        for (int build = 0; build < builds.count; build++) {
            if (suffices(builds.vouchers[build], build)) {
                trusted |= only(build);
            }
        }
        return trusted;
    }

    private boolean hasExpired(int mirror) {
        int updatedOn = mirrors.updatedOn[mirror];
        return updatedOn == NEVER || today - updatedOn > expiry;
    }

    private void requireSigner(int signer) {
        if (signer < 0 || signer >= SIGNERS) {
            throw new IllegalArgumentException("no such signer");
        }
    }

    private void requireName(int name) {
        if (name < 0 || name >= NAMES) {
            throw new IllegalArgumentException("no such name");
        }
    }

    private void requireKey(int key) {
        if (key < 0 || key >= keys.count) {
            throw new IndexOutOfBoundsException("no such key");
        }
    }

    private void requireBuild(int build) {
        if (build < 0 || build >= builds.count) {
            throw new IndexOutOfBoundsException("no such build");
        }
    }

    private void requireMirror(int mirror) {
        if (mirror < 0 || mirror >= mirrors.count) {
            throw new IndexOutOfBoundsException("no such mirror");
        }
    }

    private static int requireFound(int build) {
        if (build == NONE) {
            throw new NoSuchElementException("no such build of the name");
        }
        return build;
    }

    private static int only(int number) {
        return 1 << number;
    }

    private static boolean holds(int set, int number) {
        return (set & only(number)) != 0;
    }

    /**
     * The bits of a double that is 0 or normal and not negative, as every sum of scores is.
     * The bits are found by arithmetic because LANGUAGE.md has no call of the library for them.
     */
    private static long doubleBits(double value) {
        if (value <= 0.0) {
            return 0L;
        }
        double fraction = value;
        long exponent = 1023L;
        while (fraction >= 2.0 && exponent < 2046L) {
            fraction = fraction / 2.0;
            exponent++;
        }
        while (fraction < 1.0 && exponent > 1L) {
            fraction = fraction * 2.0;
            exponent--;
        }
        return (exponent << 52) + (long) ((fraction - 1.0) * 4503599627370496.0);
    }

    /** The same for a float: a double has 29 more bits of fraction, and its exponent counts from 896 lower. */
    private static int floatBits(float value) {
        if (value <= 0.0f) {
            return 0;
        }
        return (int) ((doubleBits((double) value) >>> 29) - (896L << 23));
    }

    /** The keys, each with its signer and span. */
    private static final class Keys {
        private final int[] signers = new int[MOST_KEYS];
        private final int[] firsts = new int[MOST_KEYS];
        private final int[] lasts = new int[MOST_KEYS];
        private int lost;
        private int count;

        private int append(int signer, int first, int last) {
            int key = count;
            signers[key] = signer;
            firsts[key] = first;
            lasts[key] = last;
            count++;
            return key;
        }

        private boolean liveOn(int key, int day) {
            return firsts[key] <= day && day <= lasts[key] && !holds(lost, key);
        }

        private int live(int day) {
            int live = 0;
            for (int key = 0; key < count; key++) {
                if (liveOn(key, day)) {
                    live |= only(key);
                }
            }
            return live;
        }

        private int signersOf(int someKeys) {
            int theirSigners = 0;
            for (int key = 0; key < count; key++) {
                if (holds(someKeys, key)) {
                    theirSigners |= only(signers[key]);
                }
            }
            return theirSigners;
        }
    }

    /** The builds, each with all that it uses, the keys that attested it, and the signers who vouch for it. */
    private static final class Builds {
        private final int[] names = new int[MOST_BUILDS];
        private final int[] versions = new int[MOST_BUILDS];
        private final int[] sources = new int[MOST_BUILDS];
        private final int[] results = new int[MOST_BUILDS];
        private final int[] attesters = new int[MOST_BUILDS];
        private final int[] vouchers = new int[MOST_BUILDS];
        private final int[] told = new int[MOST_BUILDS];
        private final int[] confirmed = new int[MOST_BUILDS];
        private int marked;
        private int count;

        private int append(int name, int inputs, int result) {
            int build = count;
            names[build] = name;
            versions[build] = 1 + countOf(name);
            sources[build] = withTheirSources(inputs);
            results[build] = result;
            count++;
            return build;
        }

        private int countOf(int name) {
            int found = 0;
            for (int build = 0; build < count; build++) {
                if (names[build] == name) {
                    found++;
                }
            }
            return found;
        }

        private int withTheirSources(int inputs) {
            int all = inputs;
            for (int build = 0; build < count; build++) {
                if (holds(inputs, build)) {
                    all |= sources[build];
                }
            }
            return all;
        }

        private int all() {
            return only(count) - 1;
        }

        private int recalled() {
            int recalled = marked;
            for (int build = 0; build < count; build++) {
                if ((sources[build] & marked) != 0) {
                    recalled |= only(build);
                }
            }
            return recalled;
        }

        /** Versions of a name rise with the numbers of its builds, so that the last one found is the newest. */
        private int newestOf(int name, int candidates) {
            int found = NONE;
            for (int build = 0; build < count; build++) {
                if (names[build] == name && holds(candidates, build)) {
                    found = build;
                }
            }
            return found;
        }

        /** To be called whenever a key may have ceased to be live. */
        private void keepVouchers(Keys keys, int day) {
            int live = keys.live(day);
            for (int build = 0; build < count; build++) {
                vouchers[build] = keys.signersOf(attesters[build] & live);
            }
        }
    }

    /** The mirrors, each with the day of its list and the builds that the list tells not to be recalled. */
    private static final class Mirrors {
        private final int[] updatedOn = new int[MOST_MIRRORS];
        private final int[] offered = new int[MOST_MIRRORS];
        private int count;

        private int append() {
            int mirror = count;
            updatedOn[mirror] = NEVER;
            offered[mirror] = 0;
            count++;
            return mirror;
        }
    }
}
