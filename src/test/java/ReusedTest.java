/** One object goes through many texts: it always answers as a new one does with the same texts, whatever was there before. */
public final class ReusedTest {
  private static final int WAYS = 7;
  private static final int QUESTIONS = 34;
  private static long seed = 5121;

  public static void main(String[] args) {
    firstBehindEachChange();
    manyTextsOneAfterTheOther();
    asManyCallsAsAnObjectIsGoodFor();
    Door.end();
  }

  private static int random(int below) {
    seed = seed * 6364136223846793005L + 1442695040888963407L;
    return (int) ((seed >>> 33) % below);
  }

  private static Sourcedoor fresh(Sourcedoor door) {
    return Door.world(door.text(0), door.text(1), door.text(2), door.text(3));
  }

  // ---- each question as the first one behind each way of changing a text

  private static void firstBehindEachChange() {
    for (int way = 0; way < WAYS; way++) {
      for (int question = 0; question < QUESTIONS; question++) {
        Sourcedoor door = Door.world(ReadingTest.WORLDS[4]);
        ask(door, question);
        change(door, way);
        Door.due("question " + question + " behind change " + way, ask(door, question), ask(fresh(door), question));
      }
    }
  }

  private static void change(Sourcedoor door, int way) {
    switch (way) {
      case 0:
        door.type(1, 0, 130, 34, 35, -1);
        break;
      case 1:
        door.cut(1, 1);
        break;
      case 2:
        door.sample(1, 4);
        break;
      case 3:
        door.change(1, Door.place(door.text(1), "extends", 0) + 1, 57);
        break;
      case 4:
        door.insert(1, Door.place(door.text(1), "return", 0), 38);
        break;
      case 5:
        door.remove(1, Door.place(door.text(1), "-", 0));
        break;
      default:
        door.swap(1, 0);
    }
  }

  /** What is answered of UNIT 1, put together of all its places or types, if the question is of these. */
  private static String ask(Sourcedoor door, int question) {
    switch (question) {
      case 0: return "" + door.ofUnit(1, 1);
      case 1: return "" + door.ofUnit(1, 2);
      case 2: return "" + door.ofUnit(1, 3);
      case 3: return "" + door.ofUnit(1, 4);
      case 4: return "" + door.ofUnit(1, 5);
      case 5: return "" + door.fault(1, 0, 1);
      case 6: return "" + door.faultAt(1, Math.max(0, door.fault(1, 0, 1)));
      case 7: return door.faults(1);
      case 8: return door.imports(1);
      case 9: return "" + door.main(1);
      case 10: return door.types(1);
      case 11: return "" + door.items(1);
      case 12: return door.run(1, 3, 2) < 0 ? "refused" : door.result() + door.output();
      case 13: return "" + door.isTurned(1, 3, 2);
      case 14: return "" + door.isSound();
      case 15: return "" + door.digest();
      case 16: return "" + door.house(1) + "/" + door.house(2) + "/" + door.house(3);
      case 17: return "" + door.house(2);
      default: return question < 26 ? askTypes(door, question - 18) : askPlaces(door, question - 26);
    }
  }

  private static String askTypes(Sourcedoor door, int question) {
    StringBuilder all = new StringBuilder();
    for (int unit = 0; unit < 2; unit++) {
      for (int k = 0; k < 4; k++) {
        try {
          all.append(askType(door, unit, k, question));
        } catch (IndexOutOfBoundsException e) {
          all.append('-');
        }
      }
    }
    return all.toString();
  }

  private static String askType(Sourcedoor door, int unit, int k, int question) {
    switch (question) {
      case 0: return "" + door.ofType(unit, k, 0) + "/" + door.ofType(unit, k, 3);
      case 1: return door.above(unit, k);
      case 2: return "" + door.isSubtype(unit, k, unit, 0);
      case 3: return door.methods(unit, k);
      case 4: return door.field(unit, k, 3);
      case 5: return door.own(unit, k);
      case 6: return door.constructors(unit, k);
      default: return door.subtypes(unit, k);
    }
  }

  private static String askPlaces(Sourcedoor door, int question) {
    StringBuilder all = new StringBuilder();
    // Not by ofUnit(), that would be the first question then.
    int many = Door.plain(door.text(1)).size();
    for (int place = 0; place < many; place++) {
      switch (question) {
        case 0:
          all.append(door.meant(1, place));
          break;
        case 1:
          all.append(door.kind(1, place));
          break;
        case 2:
          all.append(door.value(1, place));
          break;
        case 3:
          all.append(door.phase(1, place));
          break;
        case 4:
          all.append(door.applies(1, place));
          break;
        case 5:
          all.append(door.reached(1, place)).append(door.overridden(1, place));
          break;
        case 6:
          all.append(door.isSet(1, place, 23)).append(door.isSet(1, place, 18));
          break;
        default:
          all.append(door.raised(1, place));
      }
    }
    return all.toString();
  }

  // ---- many texts one after the other

  private static void manyTextsOneAfterTheOther() {
    for (int round = 0; round < 60; round++) {
      Sourcedoor door = new Sourcedoor();
      for (int step = 0; step < 8; step++) {
        mix(door);
        if (random(3) == 0) continue;
        Sourcedoor other = fresh(door);
        for (int unit = 0; unit < 4; unit++) {
          String what = " of unit " + unit + " of " + door.text(0) + " | " + door.text(1) + " | " + door.text(2) + " | " + door.text(3);
          Door.due("all" + what, all(door, unit), all(other, unit));
        }
      }
    }
  }

  private static void mix(Sourcedoor door) {
    int unit = random(4);
    int many = door.ofUnit(unit, 0);
    int place = many == 0 ? 0 : random(many);
    switch (random(8)) {
      case 0:
        door.swap(unit, random(4));
        break;
      case 1:
        door.cut(unit, 1 + random(240));
        break;
      case 2:
        if (many > 0) door.remove(unit, place);
        break;
      case 3:
        if (many > 0 && many < 240) door.insert(unit, place, door.token(unit, random(many)));
        break;
      case 4:
        if (many > 0) door.change(unit, place, door.token(unit, random(many)));
        break;
      default:
        String[] world = ReadingTest.WORLDS[random(ReadingTest.WORLDS.length)];
        for (int k = 0; k < world.length; k++) {
          door.cut(k, 240);
          Door.type(door, k, world[k]);
        }
        for (int k = world.length; k < 4; k++) {
          if (random(2) == 0) door.cut(k, 240);
        }
    }
  }

  // ---- 512 calls of one object whose texts are long: what each of them looks through does not add up

  private static void asManyCallsAsAnObjectIsGoodFor() {
    String locals = ofNames(32, "int # = z + 1 ; ", "xyz");
    Sourcedoor door = new Sourcedoor();
    Door.type(door, 0, "class a { static int M ( int x , int y ) { int z = 5 ; " + locals + "return z + y ; } }");
    Door.type(door, 1, "interface b { " + ofNames(28, "int # ( int x ) ; ", "") + "}");
    Door.type(door, 2, "class c { " + ofNames(38, "int # = 1 ; ", "") + "}");
    Door.type(door, 3, "class d { d n ; } " + ofNames(26, "class # extends d { } ", "abcd"));
    int calls = 0;
    for (int unit = 0; unit < 4; unit++) calls += (door.ofUnit(unit, 0) + 4) / 5 + 1;
    int place = Door.place(door.text(0), "5", 0);
    for (int k = 0; calls + 3 <= 512; k++, calls += 3) {
      door.change(0, place, 1000 + k);
      Door.due("run " + k, door.run(0, 0, 7), 1);
      Door.due("result " + k, door.result(), "" + (k + 7));
    }
    Door.due("no faults", door.house(2), 0);
  }

  /** Something for each of so many names, but for some of these. */
  private static String ofNames(int many, String pattern, String without) {
    StringBuilder text = new StringBuilder();
    for (int k = 0; k < many; k++) {
      char name = (char) (k < 26 ? 'a' + k : 'A' + k - 26);
      if (without.indexOf(name) < 0) text.append(pattern.replace('#', name));
    }
    return text.toString();
  }

  private static String all(Sourcedoor door, int unit) {
    StringBuilder text = new StringBuilder(door.faults(unit));
    text.append(door.types(unit)).append(door.imports(unit)).append(door.main(unit)).append(door.items(unit));
    for (int k = 0; k < door.ofUnit(unit, 1); k++) {
      for (int question = 0; question < 8; question++) text.append(askType(door, unit, k, question));
      for (int what = 0; what < 8; what++) text.append(door.ofType(unit, k, what));
      for (int name = 0; name < 40; name++) text.append(door.field(unit, k, name));
    }
    for (int place = 0; place < door.ofUnit(unit, 0); place++) {
      text.append(door.meant(unit, place)).append(door.kind(unit, place)).append(door.value(unit, place)).append(door.raised(unit, place));
      text.append(door.phase(unit, place)).append(door.applies(unit, place)).append(door.reached(unit, place)).append(door.overridden(unit, place));
      if (door.reached(unit, place) < 0) continue;
      for (int name = 0; name < 40; name++) text.append(door.isSet(unit, place, name));
    }
    text.append(door.isTurned(unit, 3, 2)).append(door.isSound());
    if (door.run(unit, 3, 2) < 0) return text.toString();
    for (int what = 0; what < 7; what++) text.append(door.outcome(what)).append('/');
    return text.append(door.result()).append(door.output()).toString();
  }
}
