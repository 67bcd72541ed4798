import java.util.Random;

/** Long mixed runs of calls, right and wrong ones, each answer held against BenchModel's. */
final class ModelTest {
    private static final int RUNS = 400;
    private static final int CALLS = 512;
    private static final int[] NUMBERS = {0, 1, 2, 3, 7, 128, 255, 256, -1};
    private static final int[] SEEN = new int[64];

    private static Random random;
    private static FluxBench bench;
    private static BenchModel model;
    private static int made;

    /** One call on both; what each answers, as a text. */
    private interface Pair {
        String ofBench();

        String ofModel();
    }

    private static int below(int bound) {
        return random.nextInt(bound);
    }

    private static int anyTrack() {
        int tracks = model.tracks.size();
        return below(40) == 0 ? below(7) - 2 : tracks == 0 ? 0 : below(tracks);
    }

    private static int anyPlace(int track) {
        int cells = track < 0 || track >= model.tracks.size() ? 1 : model.tracks.get(track).row.size();
        return below(30) == 0 ? below(410) - 5 : cells == 0 ? 0 : below(cells);
    }

    private static int anyWhat(int last) {
        return below(20) == 0 ? (below(2) == 0 ? -1 : last + 1) : below(last + 1);
    }

    private static int anyData() {
        int first = NUMBERS[below(7)];
        return below(25) == 0 ? -1 - below(300) : first + 256 * below(1 << (below(24)));
    }

    private static String answer(Pair pair, boolean isBench) {
        try {
            return isBench ? pair.ofBench() : pair.ofModel();
        } catch (RuntimeException e) {
            return "throws." + e.getClass().getSimpleName();
        }
    }

    private static void both(String name, Pair pair) {
        made++;
        String due = answer(pair, false);
        Check.sameText(name, answer(pair, true), due);
    }

    private static void writeOne(int run) {
        int track = anyTrack();
        int kind = below(run % 3 == 0 ? 8 : 4);
        if (kind < 3) {
            int number = NUMBERS[below(below(10) == 0 ? 9 : 7)];
            int count = below(20) == 0 ? below(7) - 1 : 1 + below(4);
            int data = anyData();
            boolean isRight = below(6) != 0;
            both("sector", new Pair() {
                public String ofBench() {
                    return "" + bench.sector(track, number, count, data, isRight);
                }

                public String ofModel() {
                    return "" + model.sector(track, number, count, data, isRight);
                }
            });
        } else if (kind < 4 || kind > 6) {
            markOne(track);
        } else {
            byteOne(track, below(20) == 0 ? below(2) * 257 - 1 : below(2) == 0 ? below(256) : below(5));
        }
    }

    private static void spoilOne() {
        int track = anyTrack();
        int place = anyPlace(track);
        if (below(2) == 0) {
            boolean isWeak = below(4) != 0;
            both("weak", new Pair() {
                public String ofBench() {
                    return "" + bench.weak(track, place, isWeak);
                }

                public String ofModel() {
                    return "" + model.weak(track, place, isWeak);
                }
            });
            return;
        }
        int to = below(15) == 0 ? anyPlace(track) : place + below(4);
        both("dirt", new Pair() {
            public String ofBench() {
                return "" + bench.dirt(track, place, to);
            }

            public String ofModel() {
                return "" + model.dirt(track, place, to);
            }
        });
    }

    private static void readOne() {
        int track = anyTrack();
        both("read", new Pair() {
            public String ofBench() {
                return "" + bench.read(track);
            }

            public String ofModel() {
                return "" + model.read(track);
            }
        });
    }

    private static void cleanOne() {
        int track = anyTrack();
        both("clean", new Pair() {
            public String ofBench() {
                return "" + bench.clean(track);
            }

            public String ofModel() {
                return "" + model.clean(track);
            }
        });
    }

    private static void copyOne() {
        int from = anyTrack();
        int to = anyTrack();
        boolean isRaw = below(2) == 0;
        both("copy", new Pair() {
            public String ofBench() {
                return "" + bench.copy(from, to, isRaw);
            }

            public String ofModel() {
                return "" + model.copy(from, to, isRaw);
            }
        });
    }

    private static void beginOne() {
        int value = below(10) == 0 ? below(16) - 2 : below(2) == 0 ? below(3) : 6 + below(6);
        if (below(2) == 0) {
            both("speed", new Pair() {
                public String ofBench() {
                    return "" + bench.speed(value);
                }

                public String ofModel() {
                    return "" + model.speed(value);
                }
            });
            return;
        }
        both("track", new Pair() {
            public String ofBench() {
                return "" + bench.track(value);
            }

            public String ofModel() {
                return "" + model.track(value);
            }
        });
    }

    private static void askCell() {
        int track = anyTrack();
        int place = anyPlace(track);
        int what = anyWhat(3);
        both("ofCell", new Pair() {
            public String ofBench() {
                return "" + bench.ofCell(track, place, what);
            }

            public String ofModel() {
                return "" + model.ofCell(track, place, what);
            }
        });
        both("vote", new Pair() {
            public String ofBench() {
                return "" + bench.vote(track, place);
            }

            public String ofModel() {
                return "" + model.vote(track, place);
            }
        });
    }

    private static void askTurn() {
        int track = anyTrack();
        int turn = below(5) - 1;
        boolean isWord = below(2) == 0;
        both("turn", new Pair() {
            public String ofBench() {
                return "" + bench.turn(track, turn, isWord);
            }

            public String ofModel() {
                return "" + model.turn(track, turn, isWord);
            }
        });
        both("period", new Pair() {
            public String ofBench() {
                return "" + bench.period(track, turn);
            }

            public String ofModel() {
                return "" + model.period(track, turn);
            }
        });
    }

    private static void askSector() {
        int track = anyTrack();
        int sector = below(10) - 1;
        int what = anyWhat(8);
        int number = NUMBERS[below(9)];
        both("ofSector", new Pair() {
            public String ofBench() {
                return "" + bench.ofSector(track, sector, what);
            }

            public String ofModel() {
                return "" + model.ofSector(track, sector, what);
            }
        });
        both("chain", new Pair() {
            public String ofBench() {
                return "" + bench.chain(track, number);
            }

            public String ofModel() {
                return "" + model.chain(track, number);
            }
        });
    }

    private static void askTrack() {
        int track = anyTrack();
        int what = anyWhat(11);
        both("ofTrack", new Pair() {
            public String ofBench() {
                return "" + bench.ofTrack(track, what);
            }

            public String ofModel() {
                return "" + model.ofTrack(track, what);
            }
        });
        both("many", new Pair() {
            public String ofBench() {
                return "" + bench.many(what);
            }

            public String ofModel() {
                return "" + model.many(what);
            }
        });
        both("sure", new Pair() {
            public String ofBench() {
                return "" + bench.sure(track);
            }

            public String ofModel() {
                return "" + model.sure(track);
            }
        });
    }

    private static void askCopy() {
        int track = anyTrack();
        int code = anyWhat(2);
        both("plainLong", new Pair() {
            public String ofBench() {
                return "" + bench.plainLong(track);
            }

            public String ofModel() {
                return "" + model.plainLong(track);
            }
        });
        both("wouldLose", new Pair() {
            public String ofBench() {
                return "" + bench.wouldLose(track);
            }

            public String ofModel() {
                return "" + model.wouldLose(track);
            }
        });
        both("goodBy", new Pair() {
            public String ofBench() {
                return "" + bench.goodBy(track, code);
            }

            public String ofModel() {
                return "" + model.goodBy(track, code);
            }
        });
    }

    private static void ask() {
        switch (below(5)) {
            case 0:
                askCell();
                break;
            case 1:
                askTurn();
                break;
            case 2:
                askSector();
                break;
            case 3:
                askTrack();
                break;
            default:
                askCopy();
        }
    }

    private static void byteOne(int track, int value) {
        both("write", new Pair() {
            public String ofBench() {
                return "" + bench.write(track, value);
            }

            public String ofModel() {
                return "" + model.write(track, value);
            }
        });
    }

    private static void markOne(int track) {
        both("mark", new Pair() {
            public String ofBench() {
                return "" + bench.mark(track);
            }

            public String ofModel() {
                return "" + model.mark(track);
            }
        });
    }

    /** A MARK, NUMBER and COUNT without what is due behind them: CUT, if nothing comes. */
    private static void headOne() {
        int track = anyTrack();
        markOne(track);
        byteOne(track, NUMBERS[below(8)]);
        byteOne(track, 1 + below(4));
    }

    private static void callOne(int run) {
        int kind = below(100);
        if (kind < 2) {
            headOne();
        } else if (kind < 6) {
            beginOne();
        } else if (kind < 25) {
            writeOne(run);
        } else if (kind < 25 + (run % 4) * 3) {
            spoilOne();
        } else if (kind < 50) {
            readOne();
        } else if (kind < 53) {
            cleanOne();
        } else if (kind < 58) {
            copyOne();
        } else {
            ask();
        }
    }

    private static void noteSeen() {
        for (int track = 0; track < model.tracks.size(); track++) {
            SEEN[model.ofTrack(track, 9)]++;
        }
    }

    private static void run(int run) {
        random = new Random(9601L + run);
        bench = new FluxBench();
        model = new BenchModel();
        for (int code = 0; code < 3; code++) {
            Check.same("track", bench.track(code), model.track(code));
        }
        made = 3;
        // A step makes at most three calls, and the digest is one more.
        for (int step = 0; made + 4 <= CALLS; step++) {
            callOne(run);
            if (step % 10 == 0) {
                Check.same("digest in run " + run, bench.digest(), model.digest());
                made++;
                noteSeen();
            }
        }
    }

    public static void main(String[] args) {
        for (int run = 0; run < RUNS; run++) {
            run(run);
        }
        if (args.length > 0) {
            for (int set = 0; set < SEEN.length; set++) {
                System.out.println("guards " + set + ": seen " + SEEN[set]);
            }
        }
        Check.end("ModelTest");
    }
}
