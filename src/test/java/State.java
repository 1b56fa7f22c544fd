/**
 * States for calls that must change nothing. The DATA and the RULE are such that a change of any part
 * of them shows in what Looks sees (TwinsTest holds that), and what was found is not what would be found now.
 */
enum State {
    NEW {
        @Override
        void bring(MatchSeeker x) {
        }
    },
    RULED {
        @Override
        void bring(MatchSeeker x) {
            rules(x);
        }
    },
    WRITTEN {
        @Override
        void bring(MatchSeeker x) {
            rules(x);
            Checks.write(x, TELLING);
            x.history(3);
        }
    },
    GONE_OVER {
        @Override
        void bring(MatchSeeker x) {
            WRITTEN.bring(x);
            x.go();
            x.history(2);
            Checks.write(x, "baaac");
        }
    },
    FULL {
        @Override
        void bring(MatchSeeker x) {
            GONE_OVER.bring(x);
            x.again(45, 726);
            Checks.write(x, TELLING + "aaaaaaaaaaaaa");
        }
    },
    BY_COST {
        @Override
        void bring(MatchSeeker x) {
            GONE_OVER.bring(x);
            x.rule(4, 20, 4, 9);
        }
    },
    FULL_BY_COST {
        @Override
        void bring(MatchSeeker x) {
            FULL.bring(x);
            x.rule(4, 20, 4, 9);
        }
    },
    CLEARED {
        @Override
        void bring(MatchSeeker x) {
            rules(x);
            Checks.write(x, "aaaaaaaa");
            x.again(8, 8);
            x.history(5);
            x.go();
            x.clear();
        }
    };

    /** Each WAY goes over it in another manner, and so do windows, caps, LEASTs and ENDs next to those of rules(). */
    static final String TELLING = "caaaaaaaaaaaaacaaaaacaaacaabaaaaaaaaacaa";

    private static void rules(MatchSeeker x) {
        x.rule(2, 20, 4, 9);
        x.bounds(8, 1, 7, 15);
    }

    abstract void bring(MatchSeeker x);

    MatchSeeker make() {
        MatchSeeker x = new MatchSeeker();
        bring(x);
        return x;
    }

    int bytes() {
        return make().size();
    }
}
