/** An object whose calls are told by name, and counted: nothing is due behind the 512th. */
final class Counted {
  static final int MOST_CALLS = 512;

  final RainPurse purse = new RainPurse();
  private int calls;

  long call(String name, long... a) {
    calls++;
    if (calls > MOST_CALLS) {
      throw new IllegalStateException("more than " + MOST_CALLS + " calls");
    }
    int p = a.length > 0 ? (int) a[0] : 0;
    int q = a.length > 1 ? (int) a[1] : 0;
    int r = a.length > 2 ? (int) a[2] : 0;
    int s = a.length > 3 ? (int) a[3] : 0;
    int t = a.length > 4 ? (int) a[4] : 0;
    switch (name) {
      case "field": return purse.field(p);
      case "fieldIs": return purse.fieldIs(p, q);
      case "set": return purse.set(p, q, r);
      case "law": return purse.law(p);
      case "lawIs": return purse.lawIs(p, q);
      case "as": return purse.as(p, q);
      case "become": return purse.become(p, q);
      case "force": return purse.force(p);
      case "feed": return purse.feed(a[0], q);
      case "text": return purse.text(p);
      case "untell": return purse.untell(p);
      case "evening": return purse.evening();
      case "settle": return purse.settle(p);
      case "night": return purse.night(p, q);
      case "two": return purse.two();
      case "gauge": return purse.gauge(p, q);
      case "wrong": return purse.wrong(p);
      case "weather": return purse.weather(p, q);
      case "rain": return purse.rain(p, q, r);
      case "days": return purse.days(p);
      case "seed": return purse.seed(p);
      case "mean": return purse.mean(p, q);
      case "evenest": return purse.evenest();
      case "fails": return purse.fails(p, q, r, s);
      case "stands": return purse.stands(p, q, r);
      case "book": return purse.book(p, q, r);
      case "voice": return purse.voice(p, q, r);
      case "body": return purse.body(p);
      case "sheet": return purse.sheet(p, q, r);
      case "put": return purse.put(p, q, r);
      case "move": return purse.move(p, q, r, s, t);
      case "rains": return purse.rains(p);
      case "judge": return purse.judge(p);
      case "play": return purse.play(p);
      case "image": return purse.image();
      case "restore": return purse.restore();
      case "tell": return purse.tell(p);
      case "check": return purse.check();
      case "count": return purse.count(p);
      case "told": return purse.told(p);
      default: throw new IllegalArgumentException(name);
    }
  }
}
