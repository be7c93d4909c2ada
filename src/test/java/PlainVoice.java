import java.util.List;

/** VOICES as Java itself calls them: a class for each KIND. */
class PlainVoice {
    int n;
    int m;
    List<Integer> trace;

    static PlainVoice of(int kind, int n, int m, List<Integer> trace) {
        PlainVoice[] kinds = {
            new PlainVoice(), new Barge(), new Drifter(), new Towed(), new Echo(), new Late(), new Rowed(),
        };
        PlainVoice voice = kinds[kind];
        voice.n = n;
        voice.m = m;
        voice.trace = trace;
        return voice;
    }

    int sings(int x) {
        trace.add(10);
        return x + n;
    }

    int drifts(int x) {
        trace.add(11);
        return sings(x) * 2;
    }

    int waits(int x) {
        trace.add(12);
        return x - m;
    }

    int tells(int x) {
        trace.add(13);
        return drifts(x) ^ waits(x);
    }

    static class Barge extends PlainVoice {
        @Override
        int drifts(int x) {
            trace.add(20);
            return super.drifts(x) - waits(1);
        }
    }

    static class Drifter extends PlainVoice {
        @Override
        int sings(int x) {
            trace.add(30);
            return super.sings(x) * 3;
        }
    }

    static class Towed extends PlainVoice {
        @Override
        int waits(int x) {
            trace.add(40);
            return -super.waits(x);
        }
    }

    static class Echo extends Barge {
        @Override
        int drifts(int x) {
            trace.add(50);
            return super.drifts(x + 1);
        }
    }

    static class Late extends Drifter {
        @Override
        int tells(int x) {
            trace.add(60);
            return super.tells(x) - sings(2);
        }
    }

    static class Rowed extends Towed {
        @Override
        int waits(int x) {
            trace.add(70);
            return super.waits(x) ^ n;
        }

        @Override
        int tells(int x) {
            trace.add(71);
            return drifts(x) - super.tells(x);
        }
    }
}
