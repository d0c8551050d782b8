/** The boundaries that promises 28 to 35, and Terms 4 and 5, name: a test for each. */
public final class VoicesSheetsTest extends Bench {
  private static final int RAINS = 0;
  private static final int OWES = 1;
  private static final int PAYS = 2;
  private static final int PARTS = 3;

  public static void main(String[] args) {
    runAll(VoicesSheetsTest.class, 28, 35);
  }

  // ---- promises 28 and 29

  /** An object in which the LAW of this number is of such a KIND, with m; the others are 0. */
  private static RainPurse withLaw(int law, int km) {
    RainPurse x = new RainPurse();
    for (int i = 0; i < 5; i++) {
      x.law(i == law ? km : 0);
    }
    return x;
  }

  /** The BODIES of each VOICE of each KIND, as they begin; m is 9 and k 4: none is PARTED. */
  private static void promise28EachVoiceOfEachKind() {
    spoken(9, new int[][] {{10}, {11, 10}, {12, 11, 10}, {13}});
    spoken(19, new int[][] {{20, 10}, {11, 20, 10}, {12, 11, 20, 10}, {21, 13, 11, 20, 10}});
    spoken(29, new int[][] {{10}, {30, 11, 10}, {12, 30, 11, 10}, {13}});
    spoken(39, new int[][] {{40, 20, 10}, {11, 40, 20, 10}, {41, 12, 11, 40, 20, 10},
        {21, 13, 11, 40, 20, 10}});
    spoken(49, new int[][] {{20, 10}, {11, 20, 10}, {50, 12, 11, 20, 10}, {21, 13, 11, 20, 10}});
    spoken(59, new int[][] {{10}, {60, 30, 11, 10}, {12, 60, 30, 11, 10}, {13}});
    spoken(69, new int[][] {{70}, {71, 11, 70}, {12, 71, 11, 70}, {13}});
  }

  private static void spoken(int km, int[][] bodies) {
    RainPurse x = withLaw(4, km);
    for (int voice = RAINS; voice <= PARTS; voice++) {
      int[] any = {DEEP, -7, -1, 0, 1, 8, FAR};
      for (int of : any) {
        due(x.voice(4, voice, of), answer(km / 10, voice, of));
        traced(x, bodies[voice]);
      }
    }
  }

  private static void traced(RainPurse x, int... bodies) {
    due(x.count(8), bodies.length);
    for (int i = 0; i < bodies.length; i++) {
      due(x.body(i), bodies[i]);
    }
    due(x.body(bodies.length), NONE);
  }

  /** What a VOICE answers with m 9 and k 4, each written out for its KIND; ints wrap. */
  private static int answer(int kind, int voice, int x) {
    int rains = x + 4;
    int inch = x + 4 - 6;
    int turn = (x + 4 - 6) * 3;
    switch (10 * kind + voice) {
      case 0: case 20: case 50: return rains;
      case 10: case 40: return inch;
      case 30: return turn;
      case 60: return 4;
      case 1: return rains * 2;
      case 11: case 41: return inch * 2;
      case 21: return 0 - rains * 2;
      case 31: return turn * 2;
      case 51: return 0 - (rains + 1) * 2;
      case 61: return 4 * 2 + 9;
      case 2: return rains * 2 - 9;
      case 12: return inch * 2 - 9;
      case 22: return 0 - rains * 2 - 9;
      case 32: return turn * 2 - 9 ^ 4;
      case 42: return (x / 2 + 4 - 6) * 2 - 9;
      case 52: return 0 - (rains + 1) * 2 - 9;
      case 62: return 4 * 2 + 9 - 9;
      case 13: case 43: return x / 5 + (1 + 4 - 6) * 2;
      case 33: return x / 5 + (1 + 4 - 6) * 3 * 2;
      default: return x / 5;
    }
  }

  private static void promise28IntsThatWrap() {
    RainPurse law = withLaw(4, 9);
    due(law.voice(4, RAINS, FAR), DEEP + 3);
    due(law.voice(4, OWES, FAR - 4), -2);
    due(law.voice(4, OWES, 1073741824 - 4), DEEP);
    due(law.voice(4, PAYS, 1073741824 - 4), FAR - 8);
    due(withLaw(0, 19).voice(0, RAINS, DEEP), FAR - 5);
    due(withLaw(0, 29).voice(0, OWES, -1073741824), DEEP);
    due(withLaw(0, 39).voice(0, RAINS, 1431655771), FAR - 2147483646 - 2);
    due(withLaw(0, 39).voice(0, RAINS, 1431655772), 2);
    due(withLaw(0, 59).voice(0, OWES, FAR), 0);
    due(withLaw(0, 59).voice(0, RAINS, FAR), FAR);
    // m - k is 1; INCH owes (1 + 3 - 6) * 2 by LAW 3.
    due(withLaw(3, 14).voice(3, PARTS, DEEP), FAR - 3);
    due(withLaw(3, 14).voice(3, PARTS, FAR), FAR - 4);
  }

  private static void promise28TheLeastIntByMinus1() {
    due(withLaw(1, 0).voice(1, PARTS, DEEP), DEEP);
    due(withLaw(1, 0).voice(1, PARTS, FAR), DEEP + 1);
    due(withLaw(1, 10).voice(1, PARTS, DEEP), FAR - 7);
  }

  private static void promise28QuotientsAreCutToward0() {
    due(withLaw(0, 2).voice(0, PARTS, 7), 3);
    due(withLaw(0, 2).voice(0, PARTS, -7), -3);
    due(withLaw(2, 0).voice(2, PARTS, 7), -3);
    due(withLaw(2, 0).voice(2, PARTS, -7), 3);
    due(withLaw(4, 0).voice(4, PARTS, 3), 0);
    // LONG: pays of x / 2.
    due(withLaw(0, 40).voice(0, PAYS, -1), -12);
    due(withLaw(0, 40).voice(0, PAYS, 1), -12);
    due(withLaw(0, 40).voice(0, PAYS, -3), -14);
  }

  private static void promise28PartedIfMIsK() {
    for (int law = 0; law < 5; law++) {
      for (int m = 0; m < 10; m++) {
        RainPurse x = withLaw(law, m);
        due(x.voice(law, PARTS, 90), m == law ? PARTED : 90 / (m - law));
        due(x.told(6), m == law ? 1 : 0);
      }
    }
  }

  private static void promise28PartedOfEachKind() {
    for (int kind = 0; kind < 7; kind++) {
      RainPurse x = withLaw(3, 10 * kind + 3);
      due(x.voice(3, PARTS, 5), PARTED);
      for (int voice = RAINS; voice <= PAYS; voice++) {
        need(x.voice(3, voice, 5) > LOW, "only parts is PARTED");
      }
      due(x.voice(3, PARTS, DEEP), PARTED);
      due(x.told(6), 2);
    }
  }

  private static void promise28AnswersThatLookLikeErrors() {
    RainPurse x = withLaw(0, 0);
    for (int k = 1; k <= 6; k++) {
      due(x.voice(0, RAINS, LOW - k), LOW - k);
      due(x.told(k), 0);
    }
  }

  private static void promise28KIsTheNumberAndMAsTold() {
    for (int law = 0; law < 5; law++) {
      due(withLaw(law, 9).voice(law, RAINS, 100), 100 + law);
      due(withLaw(law, 60).voice(law, OWES, 100), 8);
      due(withLaw(law, 69).voice(law, OWES, 100), 17);
      due(withLaw(law, 30).voice(law, PAYS, 2), (2 + law - 6) * 3 * 2 ^ law);
    }
    RainPurse x = withLaw(2, 9);
    x.become(2, 65);
    due(x.voice(2, OWES, 0), 13);
  }

  private static void promise28BeyondOfLawAndVoice() {
    RainPurse x = withLaw(0, 5);
    int[] none = {-1, 5, DEEP, FAR};
    for (int law : none) {
      due(x.voice(law, RAINS, 0), BEYOND);
    }
    int[] noVoice = {-1, 4, DEEP, FAR};
    for (int voice : noVoice) {
      due(x.voice(0, voice, 0), BEYOND);
    }
    due(new RainPurse().voice(0, RAINS, 0), BEYOND);
    due(x.told(1), 8);
  }

  private static void promise28BeyondIsAskedAheadOfParted() {
    RainPurse x = withLaw(0, 0);
    due(x.voice(0, 4, 0), BEYOND);
    due(x.voice(5, PARTS, 0), BEYOND);
    due(x.voice(0, PARTS, 0), PARTED);
    dues(toldOf(x), 2, 0, 0, 0, 0, 1);
  }

  private static void promise28NoLawNeedBeInForce() {
    RainPurse x = withLaw(1, 19);
    due(x.voice(1, RAINS, 10), 5);
    x.force(0);
    due(x.voice(1, RAINS, 10), 5);
    due(x.count(3), 0);
  }

  private static void promise29WithoutAVoiceThereIsNone() {
    RainPurse x = new RainPurse();
    int[] any = {-1, 0, 1, 29, 30, DEEP, FAR};
    for (int i : any) {
      due(x.body(i), NONE);
    }
    due(x.told(2), 7);
    due(x.count(8), 0);
  }

  /** No VOICE begins more than six BODIES, so that no TRACE comes to be full. */
  private static void promise29TheLongestTrace() {
    RainPurse x = withLaw(0, 31);
    due(x.voice(0, PARTS, 6), 6 + (1 - 6) * 3 * 2);
    traced(x, 21, 13, 11, 40, 20, 10);
    int[] none = {-1, 6, 29, 30, 31, DEEP, FAR};
    for (int i : none) {
      due(x.body(i), NONE);
    }
  }

  private static void promise29OnlyTheLatestVoice() {
    RainPurse x = withLaw(0, 31);
    x.voice(0, PAYS, 6);
    due(x.count(8), 6);
    x.voice(1, RAINS, 6);
    traced(x, 10);
    x.voice(0, PARTS, 6);
    due(x.body(0), 21);
    due(x.body(5), 10);
  }

  private static void promise29OfAVoiceThatIsParted() {
    RainPurse x = withLaw(0, 30);
    x.voice(0, PAYS, 6);
    due(x.voice(0, PARTS, 6), PARTED);
    traced(x, 21, 13);
    x.become(0, 0);
    due(x.voice(0, PARTS, 6), PARTED);
    traced(x, 13);
  }

  private static void promise29BeyondLeavesTheTrace() {
    RainPurse x = withLaw(0, 30);
    x.voice(0, RAINS, 6);
    due(x.voice(5, RAINS, 6), BEYOND);
    due(x.voice(0, 4, 6), BEYOND);
    traced(x, 40, 20, 10);
  }

  // ---- promise 30

  private static void promise30BitsAre8Or16Or32Or0() {
    RainPurse x = new RainPurse();
    for (int bits = -40; bits <= 70; bits++) {
      boolean known = bits == 0 || bits == 8 || bits == 16 || bits == 32;
      due(x.sheet(0, bits, 3), known ? 1 : BEYOND);
    }
    due(x.sheet(0, DEEP, 3), BEYOND);
    due(x.sheet(0, FAR, 3), BEYOND);
  }

  private static void promise30NumbersAre0To24() {
    for (int bits = 8; bits <= 32; bits *= 2) {
      RainPurse x = new RainPurse();
      due(x.sheet(3, bits, 24), 1);
      due(x.put(3, 23, 1), 1);
      due(x.put(3, 24, 1), BEYOND);
      due(x.sheet(3, bits, 25), BEYOND);
      due(x.put(3, 23, 1), 1);
      due(x.sheet(3, bits, -1), STATE);
      due(x.sheet(3, bits, DEEP), STATE);
      due(x.put(3, 23, 1), 1);
      due(x.sheet(3, bits, 0), 1);
      due(x.put(3, 0, 1), BEYOND);
      due(x.rains(3), 0);
    }
  }

  private static void promise30MissingWhateverN() {
    int[] any = {DEEP, -1, 0, 24, 25, FAR};
    for (int n : any) {
      RainPurse x = new RainPurse();
      x.sheet(0, 8, 3);
      due(x.sheet(0, 0, n), 1);
      due(x.put(0, 0, 1), NONE);
      due(x.sheet(0, 0, n), 1);
    }
  }

  private static void promise30InWhichOrder() {
    RainPurse x = new RainPurse();
    due(x.sheet(4, 8, -1), BEYOND);
    due(x.sheet(-1, 8, -1), BEYOND);
    due(x.sheet(0, 9, -1), BEYOND);
    due(x.sheet(0, 8, -1), STATE);
    due(x.sheet(0, 8, 25), BEYOND);
    due(x.sheet(4, 0, -1), BEYOND);
    dues(toldOf(x), 5, 0, 1, 0, 0, 0);
  }

  private static void promise30SheetsAre0To3() {
    RainPurse x = new RainPurse();
    int[] none = {-1, 4, DEEP, FAR};
    for (int sheet : none) {
      due(x.sheet(sheet, 8, 3), BEYOND);
      due(x.sheet(sheet, 0, 3), BEYOND);
    }
    for (int sheet = 0; sheet < 4; sheet++) {
      due(x.put(sheet, 0, 1), NONE);
      due(x.sheet(sheet, 8, 3), 1);
      due(x.put(sheet, 0, 1), 1);
    }
  }

  private static void promise30AllAre0Anew() {
    RainPurse x = rained(1, 1, 1);
    fill(x, 0, 8, 5, 6, 7);
    due(x.sheet(0, 8, 3), 1);
    due(x.rains(0), 3);
    dues(ofFields(x, 1), 0, 0, 0);
    fill(x, 0, 8, 5, 6, 7);
    due(x.sheet(0, 0, 0), 1);
    due(x.sheet(0, 32, 3), 1);
    due(x.rains(0), 3);
    dues(ofFields(x, 1), 0, 0, 0);
  }

  private static void promise30ARefusedOneLeavesTheNumbers() {
    RainPurse x = rained(1, 1, 1);
    fill(x, 0, 8, 5, 6, 7);
    due(x.sheet(0, 8, 25), BEYOND);
    due(x.sheet(0, 16, -1), STATE);
    due(x.sheet(0, 12, 2), BEYOND);
    due(x.rains(0), 3);
    dues(ofFields(x, 1), 5, 6, 7);
    x.sheet(1, 8, 0);
    due(x.move(0, 0, 1, 0, 0), 0);
  }

  // ---- promise 31

  /** As RAIN a number is seen if it is 0 .. 99, as PENNIES if it is above 0. */
  private static void promise31TheLowestBitsOfV() {
    int[] bits = {8, 8, 8, 8, 8, 16, 16, 16, 16, 16, 32, 32};
    int[] v = {99, 256 + 99, 99 - 256, DEEP + 98, 0x7fffff00, 99, 65536 + 99, 99 - 65536, DEEP + 98,
        0x7fff0000, 99, 0};
    int[] want = {99, 99, 99, 98, 0, 99, 99, 99, 98, 0, 99, 0};
    RainPurse x = rained(1);
    for (int i = 0; i < bits.length; i++) {
      x.sheet(0, bits[i], 1);
      due(x.put(0, 0, v[i]), 1);
      due(x.rains(0), 1);
      due(x.fieldIs(0, 1), want[i]);
    }
    int[] wide = {256 + 99, 65536 + 99, DEEP + 99, FAR, -1};
    for (int w : wide) {
      x.sheet(0, 32, 1);
      due(x.put(0, 0, w), 1);
      due(x.rains(0), 0);
    }
    x.sheet(0, 16, 1);
    due(x.put(0, 0, 256 + 99), 1);
    due(x.rains(0), 0);
  }

  private static void promise31NumbersHaveASign() {
    RainPurse x = rained(0, 0);
    int[] bits = {8, 16, 32};
    int[] most = {127, 32767, FAR};
    for (int i = 0; i < 3; i++) {
      fill(x, 0, bits[i], 0, 1, most[i]);
      due(x.judge(0), 101);
      fill(x, 0, bits[i], 0, 1, most[i] + 1);
      due(x.judge(0), 0);
      fill(x, 0, bits[i], 0, 1, -1);
      due(x.judge(0), 0);
    }
  }

  private static void promise31NumbersThereAre() {
    RainPurse x = new RainPurse();
    x.sheet(0, 8, 3);
    due(x.put(0, 0, 1), 1);
    due(x.put(0, 2, 1), 1);
    int[] none = {-1, 3, 23, 24, DEEP, FAR};
    for (int i : none) {
      due(x.put(0, i, 1), BEYOND);
    }
  }

  private static void promise31InWhichOrder() {
    RainPurse x = new RainPurse();
    due(x.put(4, -1, 1), BEYOND);
    due(x.put(-1, -1, 1), BEYOND);
    due(x.put(0, -1, 1), NONE);
    x.sheet(0, 8, 1);
    due(x.put(0, -1, 1), BEYOND);
    dues(toldOf(x), 3, 1, 0, 0, 0, 0);
  }

  private static void promise31OtherNumbersStay() {
    RainPurse x = rained(1, 1, 1);
    fill(x, 0, 8, 5, 6, 7);
    fill(x, 1, 8, 5, 6, 7);
    due(x.put(0, 1, 9), 1);
    due(x.rains(0), 3);
    dues(ofFields(x, 1), 5, 9, 7);
    due(x.rains(1), 3);
    dues(ofFields(x, 1), 5, 6, 7);
  }

  // ---- promise 32

  private static void promise32AsTheyAllWere() {
    RainPurse x = rained(0, 0, 0, 0, 0);
    fill(x, 0, 16, 1, 2, 3, 4, 5);
    due(x.move(0, 0, 0, 1, 4), 4);
    due(x.rains(0), 5);
    dues(ofFields(x, 1), 1, 1, 2, 3, 4);
    fill(x, 0, 16, 1, 2, 3, 4, 5);
    due(x.move(0, 1, 0, 0, 4), 4);
    due(x.rains(0), 5);
    dues(ofFields(x, 1), 2, 3, 4, 5, 5);
    fill(x, 0, 16, 1, 2, 3, 4, 5);
    due(x.move(0, 0, 0, 0, 5), 5);
    due(x.rains(0), 5);
    dues(ofFields(x, 1), 1, 2, 3, 4, 5);
  }

  private static void promise32ToAnother() {
    RainPurse x = rained(0, 0, 0, 0);
    for (int bits = 8; bits <= 32; bits *= 2) {
      fill(x, 0, bits, 1, 2, 3);
      fill(x, 1, bits, 4, 5, 6, 7);
      due(x.move(0, 1, 1, 2, 2), 2);
      due(x.rains(1), 4);
      dues(ofFields(x, 1), 4, 5, 2, 3);
      due(x.rains(0), 3);
      dues(ofFields(x, 1), 1, 2, 3, 3);
    }
  }

  private static void promise32TwentyFourNumbers() {
    RainPurse x = rained(0, 0);
    x.sheet(0, 8, 24);
    x.sheet(1, 8, 24);
    x.put(0, 0, 5);
    x.put(0, 23, 6);
    due(x.move(0, 0, 1, 0, 24), 24);
    due(x.move(0, 0, 1, 0, 25), BEYOND);
    due(x.move(1, 23, 1, 1, 1), 1);
    due(x.rains(1), 2);
    dues(ofFields(x, 1), 5, 6);
    due(x.move(0, 24, 1, 24, 0), 0);
    due(x.move(0, 24, 1, 0, 1), BEYOND);
    due(x.move(0, 23, 1, 23, 1), 1);
    due(x.move(0, 23, 1, 23, 2), BEYOND);
  }

  private static void promise32NothingMoves() {
    RainPurse x = new RainPurse();
    x.sheet(0, 8, 0);
    x.sheet(1, 8, 3);
    due(x.move(0, 0, 0, 0, 0), 0);
    due(x.move(0, 0, 1, 3, 0), 0);
    due(x.move(1, 3, 0, 0, 0), 0);
    due(x.move(0, 1, 1, 0, 0), BEYOND);
    due(x.move(1, 4, 0, 0, 0), BEYOND);
    due(x.move(0, 0, 1, 4, 0), BEYOND);
    due(x.move(0, 0, 1, 0, 1), BEYOND);
  }

  private static void promise32BelowNoughtAndWraps() {
    RainPurse x = new RainPurse();
    x.sheet(0, 8, 5);
    int[][] none = {{-1, 0, 1}, {0, -1, 1}, {0, 0, -1}, {-1, -1, -1}, {0, 0, 6}, {1, 0, 5},
        {0, 1, 5}, {FAR, 0, 1}, {0, FAR, 1}, {0, 0, FAR}, {1, 1, FAR}, {FAR, FAR, FAR},
        {FAR, FAR, 2}, {DEEP, DEEP, DEEP}, {DEEP, 0, 1}, {0, DEEP, 1}, {0, 0, DEEP}};
    for (int[] a : none) {
      due(x.move(0, a[0], 0, a[1], a[2]), BEYOND);
    }
    due(x.told(1), none.length);
  }

  private static void promise32InWhichOrder() {
    RainPurse x = new RainPurse();
    x.sheet(0, 8, 5);
    x.sheet(1, 16, 5);
    due(x.move(4, 0, 3, 0, -1), BEYOND);
    due(x.move(3, 0, 4, 0, -1), BEYOND);
    due(x.move(-1, 0, 0, 0, 1), BEYOND);
    due(x.move(0, 0, -1, 0, 1), BEYOND);
    due(x.move(3, 0, 0, 0, -1), NONE);
    due(x.move(0, 0, 3, 0, -1), NONE);
    due(x.move(2, 0, 3, 0, -1), NONE);
    due(x.move(0, 0, 1, 0, -1), KIND);
    due(x.move(1, 9, 0, 9, 9), KIND);
    due(x.move(0, 0, 0, 0, -1), BEYOND);
    dues(toldOf(x), 5, 3, 0, 0, 2, 0);
  }

  private static void promise32UnlikeBits() {
    int[] bits = {8, 16, 32};
    for (int from : bits) {
      for (int to : bits) {
        RainPurse x = new RainPurse();
        x.sheet(0, from, 2);
        x.sheet(1, to, 2);
        due(x.move(0, 0, 1, 0, 1), from == to ? 1 : KIND);
        due(x.move(0, 0, 1, 0, 0), from == to ? 0 : KIND);
      }
    }
  }

  private static void promise32ARefusedOneMovesNothing() {
    RainPurse x = rained(0, 0, 0);
    fill(x, 0, 8, 1, 2, 3);
    fill(x, 1, 8, 4, 5, 6);
    due(x.move(0, 0, 1, 1, 3), BEYOND);
    due(x.move(0, 1, 1, 0, 3), BEYOND);
    due(x.rains(1), 3);
    dues(ofFields(x, 1), 4, 5, 6);
  }

  // ---- promise 33

  private static void promise33UpToTheFirstThatIsNoRain() {
    int[] none = {-1, 100, 127, -128};
    for (int v : none) {
      for (int at = 0; at < 3; at++) {
        RainPurse x = rained(50, 51, 52);
        fill(x, 0, 8, 0, 99, 7);
        x.put(0, at, v);
        due(x.rains(0), at);
        due(x.fieldIs(0, 1), at > 0 ? 0 : 50);
        due(x.fieldIs(1, 1), at > 1 ? 99 : 51);
        due(x.fieldIs(2, 1), 52);
        dues(toldOf(x), 0, 0, 0, 0, 0, 0);
      }
    }
  }

  private static void promise33UpToTheLastField() {
    RainPurse x = new RainPurse();
    x.sheet(0, 8, 24);
    due(x.rains(0), 0);
    for (int fields = 1; fields <= 8; fields++) {
      x.field(0);
      due(x.rains(0), fields);
    }
    dues(toldOf(x), 0, 0, 0, 0, 0, 0);
  }

  private static void promise33FewerNumbersThanFields() {
    RainPurse x = rained(50, 51, 52);
    x.sheet(0, 8, 0);
    due(x.rains(0), 0);
    dues(ofFields(x, 1), 50, 51, 52);
    fill(x, 0, 8, 3);
    due(x.rains(0), 1);
    dues(ofFields(x, 1), 3, 51, 52);
  }

  private static void promise33MissingOrNoSheet() {
    sheetThereIsNone("rains");
  }

  /** Of an act on one SHEET: BEYOND for none such, NONE for one that is missing. */
  private static void sheetThereIsNone(String act) {
    Counted x = new Counted();
    int[] none = {-1, 4, DEEP, FAR};
    for (int sheet : none) {
      due(x.call(act, sheet), BEYOND);
    }
    for (int sheet = 0; sheet < 4; sheet++) {
      due(x.call(act, sheet), NONE);
    }
    x.call("sheet", 3, 8, 0);
    need(x.call(act, 3) >= 0, "SHEET 3 stands");
    x.call("sheet", 3, 0, 0);
    due(x.call(act, 3), NONE);
    dues(toldOf(x.purse), 4, 5, 0, 0, 0, 0);
  }

  // ---- promise 34

  private static void judged(RainPurse x, int want, int... numbers) {
    fill(x, 0, 32, numbers);
    due(x.judge(0), want);
  }

  private static void promise34NoPayments() {
    judged(new RainPurse(), 0);
    judged(rained(9, 0), 0);
    judged(under(0, 9, 9), 0);
    judged(under(0, 9, 0), 100);
  }

  /** Each of the first four PAYS 4, each other one is paid it; 24 numbers are eight PAYMENTS. */
  private static void promise34EightPayments() {
    RainPurse x = under(0, 9, 9, 9, 9, 0, 0, 0, 0);
    int[] eight = {0, 4, 2, 0, 5, 2, 1, 5, 2, 1, 6, 2, 2, 6, 2, 2, 7, 2, 3, 7, 2, 3, 4, 2};
    judged(x, 8, eight);
    eight[23] = 1;
    judged(x, 108, eight);
    eight[23] = 3;
    judged(x, 108, eight);
    eight[23] = 0;
    judged(x, 7, eight);
    eight[0] = 8;
    judged(x, 0, eight);
  }

  private static void promise34WhatIsNotWhole() {
    RainPurse x = paying(3, 0, -3);
    judged(x, 0, 0);
    judged(x, 0, 0, 2);
    judged(x, 1, 0, 2, 9);
    judged(x, 1, 0, 2, 9, 0);
    judged(x, 1, 0, 2, 9, 0, 2);
    judged(x, 102, 0, 2, 9, 0, 2, 9);
    judged(x, 7, 0, 2, 9, 0, 1, 1, 0, 1, 1, 0, 1, 1, 0, 1, 1, 0, 1, 1, 0, 1, 1, 0, 1);
  }

  private static void promise34FieldThereIsNone() {
    RainPurse x = paying(3, 0, -3);
    int[] none = {-1, 3, 8, DEEP, FAR};
    for (int field : none) {
      judged(x, 0, field, 2, 9);
      judged(x, 0, 0, field, 9);
      judged(x, 1, 0, 2, 9, 1, field, 1);
      judged(x, 1, 0, 2, 9, field, 1, 1);
    }
    judged(new RainPurse(), 0, 0, 1, 1);
  }

  private static void promise34OneToItself() {
    RainPurse x = paying(3, 0, -3);
    judged(x, 0, 0, 0, 9);
    judged(x, 1, 0, 2, 9, 1, 1, 1);
    judged(x, 1, 0, 2, 9, 2, 2, 1);
  }

  private static void promise34PenniesAboveNought() {
    RainPurse x = paying(3, 0, -3);
    judged(x, 1, 0, 2, 9, 0, 2, 0);
    judged(x, 1, 0, 2, 9, 0, 2, -1);
    judged(x, 1, 0, 2, 9, 2, 0, DEEP);
    judged(x, 2, 0, 2, 8, 0, 2, 1);
  }

  private static void promise34MoreOrLessIsNotSettled() {
    RainPurse x = paying(3, 0, -3);
    judged(x, 101, 0, 2, 8);
    judged(x, 101, 0, 2, 10);
    judged(x, 101, 2, 0, 9);
    judged(x, 101, 0, 1, 9);
    judged(x, 101, 0, 2, FAR);
  }

  /** 9 and 2 * (2^31 - 1) + 2 would be 9 again, if what is paid would wrap. */
  private static void promise34SumsOfPenniesDoNotWrap() {
    RainPurse x = paying(3, 0, -3);
    judged(x, 104, 0, 2, 9, 0, 2, FAR, 0, 2, FAR, 0, 2, 2);
  }

  private static void promise34NothingIsPaid() {
    RainPurse x = paying(3, 0, -3);
    judged(x, 1, 0, 2, 9);
    judged(x, 1, 0, 2, 9);
    dues(ofFields(x, 3), 0, 0, 0);
    dues(ofFields(x, 5), 9, 0, -9);
  }

  private static void promise34MissingOrNoSheet() {
    sheetThereIsNone("judge");
  }

  // ---- promise 35

  private static void promise35UpToTheFirstThatIsNoWeather() {
    int[] none = {-1, 4, 127, -128};
    for (int v : none) {
      for (int at = 0; at < 4; at++) {
        RainPurse x = rained(5);
        fill(x, 0, 8, 0, 1, 2, 3);
        x.put(0, at, v);
        due(x.play(0), at);
        due(x.count(2), at);
        due(x.fieldIs(0, 1), at == 0 ? 5 : 0);
        dues(toldOf(x), 0, 0, 0, 0, 0, 0);
      }
    }
  }

  private static void promise35NoneAndTwentyFour() {
    RainPurse x = rained(5);
    x.sheet(0, 8, 0);
    due(x.play(0), 0);
    due(x.count(2), 0);
    due(x.fieldIs(0, 1), 5);
    x.sheet(0, 8, 24);
    due(x.play(0), 24);
    due(x.count(2), 24);
    RainPurse none = new RainPurse();
    none.sheet(0, 8, 24);
    due(none.play(0), 24);
    due(none.count(2), 24);
  }

  private static void promise35OneBehindTheOther() {
    RainPurse x = under(40, 0, 0);
    for (int w = 0; w < 4; w++) {
      x.rain(w, 0, 10 * w);
    }
    fill(x, 0, 16, 3, 1, 0, 2);
    due(x.play(0), 4);
    // SUMS ahead of each day: 0, 30, 40, 40.
    dues(ofFields(x, 3), -11, 11);
    dues(ofFields(x, 2), 60, 0);
    dues(ofFields(x, 1), 0, 0);
    fill(x, 0, 16, 1, 0, 0, 1);
    due(x.play(0), 4);
    // 60, 70, 70, and then a new week.
    dues(ofFields(x, 3), -31, 31);
    dues(ofFields(x, 2), 10, 0);
  }

  private static void promise35WeatherNeedNotCome() {
    RainPurse x = under(0, 0, 0);
    x.rain(3, 0, 9);
    fill(x, 0, 8, 3);
    due(x.play(0), 1);
    due(x.fieldIs(0, 3), -1);
    due(x.count(9), 1);
  }

  private static void promise35DayIs9999AtMost() {
    RainPurse x = rained(5);
    goTo(x, 9996);
    fill(x, 0, 8, 0, 0, 0, 0);
    due(x.play(0), 3);
    due(x.count(2), 9999);
    x.set(0, 1, 5);
    due(x.play(0), 0);
    due(x.count(2), 9999);
    due(x.fieldIs(0, 1), 5);
    dues(toldOf(x), 0, 0, 0, 0, 0, 0);
  }

  private static void promise35MissingOrNoSheet() {
    sheetThereIsNone("play");
  }
}
