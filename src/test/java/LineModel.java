import java.util.ArrayList;
import java.util.List;
import java.util.NoSuchElementException;
import java.util.Set;
import java.util.TreeSet;

/** The document once more, with sets and lists and everything found anew at each call, to compare the class with. */
final class LineModel {
    private record Attestation(int build, int key) {
    }

    private static final class Key {
        int signer;
        int first;
        int last;
        boolean lost;
    }

    private static final class Build {
        int name;
        int version;
        int result;
        final Set<Integer> inputs = new TreeSet<>();
        boolean marked;
        final List<Integer> told = new ArrayList<>();
    }

    private static final class Mirror {
        Integer updatedOn;
        final Set<Integer> held = new TreeSet<>();
        final Set<Integer> recalledThen = new TreeSet<>();
    }

    private final List<Key> keys = new ArrayList<>();
    private final List<Build> builds = new ArrayList<>();
    private final List<Mirror> mirrors = new ArrayList<>();
    private final List<Attestation> attestations = new ArrayList<>();
    private final int[] weights = {50, 50, 50, 50};
    private final int[] thresholds = {100, 100, 100, 100, 100};
    private int expiry = 7;
    private int day;

    int addKey(int signer, int first, int last) {
        argument(signer >= 0 && signer <= 3 && first >= day && last >= first && last <= 999);
        state(keys.size() < 8);
        Key key = new Key();
        key.signer = signer;
        key.first = first;
        key.last = last;
        keys.add(key);
        return keys.size() - 1;
    }

    int loseKey(int key) {
        index(key, keys);
        state(!keys.get(key).lost);
        Set<Integer> before = trusted();
        keys.get(key).lost = true;
        before.removeAll(trusted());
        return before.size();
    }

    int extendKey(int key, int last) {
        index(key, keys);
        Key one = keys.get(key);
        argument(last > one.last && last <= 999);
        state(!one.lost && day <= one.last);
        int before = one.last;
        one.last = last;
        return before;
    }

    boolean isLive(int key) {
        index(key, keys);
        Key one = keys.get(key);
        return !one.lost && one.first <= day && day <= one.last;
    }

    int setWeight(int signer, int weight) {
        argument(signer >= 0 && signer <= 3 && weight >= 0 && weight <= 100);
        int before = weights[signer];
        weights[signer] = weight;
        return before;
    }

    int setThreshold(int name, int threshold) {
        argument(name >= 0 && name <= 4 && threshold >= 1 && threshold <= 400);
        int before = thresholds[name];
        thresholds[name] = threshold;
        return before;
    }

    int build(int name, int inputs, int result) {
        argument(name >= 0 && name <= 4);
        Build one = new Build();
        for (int bit = 0; bit < 32; bit++) {
            if ((inputs >> bit & 1) == 1) {
                argument(bit < builds.size());
                one.inputs.add(bit);
            }
        }
        for (int input : one.inputs) {
            unsupported(!isRecalled(input));
        }
        state(builds.size() < 24);
        one.name = name;
        one.result = result;
        one.version = 1;
        for (Build other : builds) {
            one.version = other.name == name ? Math.max(one.version, other.version + 1) : one.version;
        }
        builds.add(one);
        return builds.size() - 1;
    }

    int nameOf(int build) {
        index(build, builds);
        return builds.get(build).name;
    }

    int version(int build) {
        index(build, builds);
        return builds.get(build).version;
    }

    boolean uses(int build, int other) {
        index(build, builds);
        index(other, builds);
        return allUsed(build).contains(other);
    }

    int used(int build) {
        index(build, builds);
        return allUsed(build).size();
    }

    int newest(int name) {
        argument(name >= 0 && name <= 4);
        Set<Integer> candidates = trusted();
        candidates.removeIf(build -> isRecalled(build));
        return greatestVersion(name, candidates);
    }

    int attest(int build, int key) {
        index(build, builds);
        index(key, keys);
        state(isLive(key) && !attestations.contains(new Attestation(build, key)));
        unsupported(!isRecalled(build));
        attestations.add(new Attestation(build, key));
        int number = 0;
        for (Attestation one : attestations) {
            number += one.build() == build ? 1 : 0;
        }
        return number;
    }

    boolean vouches(int build, int signer) {
        return vouchesWithout(build, signer, -1);
    }

    float score(int build) {
        index(build, builds);
        return scoreWithout(build, -1);
    }

    int scoreBits(int build) {
        return Float.floatToIntBits(score(build));
    }

    boolean isTrusted(int build) {
        index(build, builds);
        return trustedWithout(build, -1);
    }

    int hangsOnKey(int key) {
        index(key, keys);
        int number = 0;
        for (int build = 0; build < builds.size(); build++) {
            number += trustedWithout(build, -1) && !trustedWithout(build, key) ? 1 : 0;
        }
        return number;
    }

    int recall(int build) {
        index(build, builds);
        state(!builds.get(build).marked);
        Set<Integer> before = allRecalled();
        builds.get(build).marked = true;
        return allRecalled().size() - before.size();
    }

    int lift(int build) {
        index(build, builds);
        state(builds.get(build).marked);
        Set<Integer> before = allRecalled();
        builds.get(build).marked = false;
        return before.size() - allRecalled().size();
    }

    boolean isRecalled(int build) {
        index(build, builds);
        boolean recalled = builds.get(build).marked;
        for (int input : builds.get(build).inputs) {
            recalled = recalled || isRecalled(input);
        }
        return recalled;
    }

    boolean rebuild(int build, int result) {
        index(build, builds);
        state(builds.get(build).told.size() < 99);
        builds.get(build).told.add(result);
        return result == builds.get(build).result;
    }

    float share(int build) {
        index(build, builds);
        List<Integer> told = builds.get(build).told;
        element(!told.isEmpty());
        int own = 0;
        for (int result : told) {
            own += result == builds.get(build).result ? 1 : 0;
        }
        return (float) own / (float) told.size();
    }

    int addMirror() {
        state(mirrors.size() < 3);
        mirrors.add(new Mirror());
        return mirrors.size() - 1;
    }

    int update(int mirror) {
        index(mirror, mirrors);
        Mirror one = mirrors.get(mirror);
        one.updatedOn = day;
        one.held.clear();
        one.recalledThen.clear();
        for (int build = 0; build < builds.size(); build++) {
            one.held.add(build);
        }
        one.recalledThen.addAll(allRecalled());
        return one.held.size();
    }

    boolean isExpired(int mirror) {
        index(mirror, mirrors);
        Integer updatedOn = mirrors.get(mirror).updatedOn;
        return updatedOn == null || day - updatedOn > expiry;
    }

    int setExpiry(int days) {
        argument(days >= 0 && days <= 99);
        int before = expiry;
        expiry = days;
        return before;
    }

    int install(int mirror, int name) {
        index(mirror, mirrors);
        argument(name >= 0 && name <= 4);
        unsupported(!isExpired(mirror));
        Set<Integer> candidates = trusted();
        candidates.retainAll(mirrors.get(mirror).held);
        candidates.removeAll(mirrors.get(mirror).recalledThen);
        return greatestVersion(name, candidates);
    }

    int pass(int days) {
        argument(days >= 1 && days <= 60 && day + days <= 999);
        Set<Integer> before = trusted();
        day += days;
        before.removeAll(trusted());
        return before.size();
    }

    int day() {
        return day;
    }

    long scoreSumBits() {
        double sum = 0.0;
        for (int build = 0; build < builds.size(); build++) {
            sum = sum + (double) score(build);
        }
        return Double.doubleToLongBits(sum);
    }

    int numberOfKeys() {
        return keys.size();
    }

    int numberOfBuilds() {
        return builds.size();
    }

    int numberOfMirrors() {
        return mirrors.size();
    }

    private Set<Integer> allUsed(int build) {
        Set<Integer> all = new TreeSet<>(builds.get(build).inputs);
        for (int input : builds.get(build).inputs) {
            all.addAll(allUsed(input));
        }
        return all;
    }

    private Set<Integer> allRecalled() {
        Set<Integer> all = new TreeSet<>();
        for (int build = 0; build < builds.size(); build++) {
            if (isRecalled(build)) {
                all.add(build);
            }
        }
        return all;
    }

    private Set<Integer> trusted() {
        Set<Integer> all = new TreeSet<>();
        for (int build = 0; build < builds.size(); build++) {
            if (trustedWithout(build, -1)) {
                all.add(build);
            }
        }
        return all;
    }

    private boolean vouchesWithout(int build, int signer, int missingKey) {
        index(build, builds);
        argument(signer >= 0 && signer <= 3);
        for (Attestation one : attestations) {
            boolean ofSigner = one.build() == build && keys.get(one.key()).signer == signer;
            if (ofSigner && one.key() != missingKey && isLive(one.key())) {
                return true;
            }
        }
        return false;
    }

    private float scoreWithout(int build, int missingKey) {
        float sum = 0.0f;
        for (int signer = 0; signer < 4; signer++) {
            if (vouchesWithout(build, signer, missingKey)) {
                sum += (float) weights[signer] / 100.0f;
            }
        }
        return sum;
    }

    private boolean trustedWithout(int build, int missingKey) {
        return !(scoreWithout(build, missingKey) < (float) thresholds[builds.get(build).name] / 100.0f);
    }

    private int greatestVersion(int name, Set<Integer> candidates) {
        int best = -1;
        for (int build : candidates) {
            boolean greater = best < 0 || builds.get(build).version > builds.get(best).version;
            if (builds.get(build).name == name && greater) {
                best = build;
            }
        }
        element(best >= 0);
        return best;
    }

    private static void index(int number, List<?> list) {
        if (number < 0 || number >= list.size()) {
            throw new IndexOutOfBoundsException();
        }
    }

    private static void argument(boolean fits) {
        if (!fits) {
            throw new IllegalArgumentException();
        }
    }

    private static void state(boolean fits) {
        if (!fits) {
            throw new IllegalStateException();
        }
    }

    private static void unsupported(boolean fits) {
        if (!fits) {
            throw new UnsupportedOperationException();
        }
    }

    private static void element(boolean there) {
        if (!there) {
            throw new NoSuchElementException();
        }
    }
}
